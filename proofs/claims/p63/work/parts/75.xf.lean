variable {nn : Nat}
/-! ===== all parts of the tree are the whole ===== -/
def sN (g : Nat → Nat) : Nat → Nat
  | 0 => 0
  | n + 1 => sN g n + g n
theorem sN_s (g : Nat → Nat) (n : Nat) : sN g (n + 1) = sN g n + g n := rfl
theorem sN_eq {f g : Nat → Nat} : ∀ n, (∀ i, i < n → f i = g i) → sN f n = sN g n
  | 0, _ => rfl
  | n + 1, h => by rw [sN_s, sN_s, sN_eq n (fun i hi => h i (by omega)), h n (by omega)]
theorem sN_a (f g : Nat → Nat) : ∀ n, sN (fun i => f i + g i) n = sN f n + sN g n
  | 0 => rfl
  | n + 1 => by rw [sN_s, sN_s, sN_s, sN_a f g n]; omega
theorem sN_z : ∀ n, sN (fun _ => 0) n = 0
  | 0 => rfl
  | n + 1 => by rw [sN_s, sN_z n]
theorem sN_1 (k c : Nat) : ∀ m, k < m → sN (fun v => if k = v then c else 0) m = c
  | 0, h => absurd h (Nat.not_lt_zero k)
  | m + 1, h => by
    rw [sN_s]
    by_cases z : k = m
    · rw [if_pos z, sN_eq (g := fun _ => 0) m (fun i hi => if_neg (by omega)), sN_z, Nat.zero_add]
    · rw [if_neg z, sN_1 k c m (by omega), Nat.add_zero]
theorem sN_sw (f g : Nat → Nat) (m : Nat) : ∀ n, (∀ i, i < n → f i < m) → sN g n = sN (fun v => sN (fun i => if f i = v then g i else 0) n) m
  | 0, _ => (sN_z m).symm
  | n + 1, h => by
    rw [sN_s, sN_sw f g m n (fun i hi => h i (by omega))]
    have e : sN (fun v => sN (fun i => if f i = v then g i else 0) (n + 1)) m = sN (fun v => sN (fun i => if f i = v then g i else 0) n + (if f n = v then g n else 0)) m := sN_eq m (fun v _ => rfl)
    rw [e, sN_a, sN_1 (f n) (g n) m (h n (by omega))]
theorem sN_sh (g : Nat → Nat) : ∀ n, sN g (n + 1) = g 0 + sN (fun i => g (i + 1)) n
  | 0 => by show 0 + g 0 = g 0 + 0; omega
  | n + 1 => by rw [sN_s, sN_sh g n, sN_s]; omega
theorem sN_in {f : Nat → Nat} {v w : Nat} : ∀ n, sN (fun i => if f i = v then w else 0) n = (sN (fun i => if f i = v then 1 else 0) n) * w
  | 0 => (Nat.zero_mul w).symm
  | n + 1 => by
    rw [sN_s, sN_s, sN_in n]
    by_cases z : f n = v
    · rw [if_pos z, if_pos z, Nat.add_mul, Nat.one_mul]
    · rw [if_neg z, if_neg z, Nat.add_zero, Nat.add_zero]
theorem cN_sN (E : ES) (v : Nat) : ∀ n, cN E v n = sN (fun i => if fN E i = v then 1 else 0) n
  | 0 => rfl
  | n + 1 => by rw [cN_s, sN_s, cN_sN E v n]
def leafB (E : ES) (i : Nat) : Bool := cN E (i + 1) (cnt E) == 0
theorem leaf_iff {E : ES} {i : Nat} : leafB E i = true ↔ ∀ j, j < cnt E → fN E j ≠ i + 1 := by
  unfold leafB
  rw [beq_iff_eq]
  constructor
  · intro z j hj q
    have := cN_pos (E := E) (v := i + 1) (cnt E) j hj q
    omega
  · intro z
    have key : ∀ n, n ≤ cnt E → cN E (i + 1) n = 0 := by
      intro n
      induction n with
      | zero => intro _; rfl
      | succ n ih => intro hn; rw [cN_s, ih (by omega), if_neg (z n (by omega))]
    exact key _ (Nat.le_refl _)
def whN (E : ES) (L : Nat) (n : Nat) : Nat := sN (fun i => if leafB E i = true then L / pt E (i + 1) else 0) n
theorem whN_s (E : ES) (L n : Nat) : whN E L (n + 1) = whN E L n + (if leafB E n = true then L / pt E (n + 1) else 0) := rfl
theorem wh_all {E : ES} (h : tre E) {L : Nat} (h0 : 0 < cnt E) (hd : ∀ i, i < cnt E → pt E (i + 1) ∣ L) : whN E L (cnt E) = L := by
  have hf : ∀ i, i < cnt E → fN E i < cnt E + 1 := fun i hi => by have := (fN_is h hi).2; omega
  have s1 := sN_sw (fN E) (fun i => L / pt E (i + 1)) (cnt E + 1) (cnt E) hf
  have s2 : ∀ v, v < cnt E + 1 → sN (fun i => if fN E i = v then L / pt E (i + 1) else 0) (cnt E) = if cN E v (cnt E) = 0 then 0 else L / pt E v := by
    intro v hv
    have e1 : sN (fun i => if fN E i = v then L / pt E (i + 1) else 0) (cnt E) = sN (fun i => if fN E i = v then L / (cN E v (cnt E) * pt E v) else 0) (cnt E) := by
      refine sN_eq (cnt E) (fun i hi => ?_)
      by_cases z : fN E i = v
      · rw [if_pos z, if_pos z, pt_s h hi, z]
      · rw [if_neg z, if_neg z]
    rw [e1, sN_in, ← cN_sN]
    by_cases z : cN E v (cnt E) = 0
    · rw [if_pos z, z, Nat.zero_mul]
    · rw [if_neg z]
      have hx : ∃ i, i < cnt E ∧ fN E i = v := by
        apply Classical.byContradiction
        intro y
        apply z
        have key : ∀ n, n ≤ cnt E → cN E v n = 0 := by
          intro n
          induction n with
          | zero => intro _; rfl
          | succ n ih => intro hn; rw [cN_s, ih (by omega), if_neg (fun q => y ⟨n, by omega, q⟩)]
        exact key _ (Nat.le_refl _)
      obtain ⟨i, hi, hv2⟩ := hx
      obtain ⟨q, hq⟩ := hd i hi
      rw [pt_s h hi, hv2] at hq
      have p1 := (pt_d h (v := v) (by omega)).2.1
      have c1 : 0 < cN E v (cnt E) := by omega
      rw [hq, Nat.mul_div_cancel_left q (Nat.mul_pos c1 p1), Nat.mul_assoc, Nat.mul_comm (cN E v (cnt E)) (pt E v * q), Nat.mul_assoc, Nat.mul_div_cancel_left _ p1, Nat.mul_comm]
  rw [sN_eq (cnt E + 1) s2, sN_sh, pt_0, Nat.div_one] at s1
  have c0 : 1 ≤ cN E 0 (cnt E) := cN_pos (cnt E) 0 h0 (by have := (fN_is h h0).2; omega)
  rw [if_neg (by omega)] at s1
  have s3 : sN (fun i => L / pt E (i + 1)) (cnt E) = whN E L (cnt E) + sN (fun i => if cN E (i + 1) (cnt E) = 0 then 0 else L / pt E (i + 1)) (cnt E) := by
    unfold whN
    rw [← sN_a]
    refine sN_eq (cnt E) (fun i hi => ?_)
    unfold leafB
    by_cases z : cN E (i + 1) (cnt E) = 0
    · rw [if_pos z, if_pos (by rw [z]; rfl)]; omega
    · rw [if_neg z, if_neg (by rw [beq_iff_eq]; exact z)]; omega
  omega
theorem lcm_d {c p q j : Nat} (hq : 151200 = c * q) (hp : p ∣ 151200) (hj : p ∣ c * j) (h1 : 1 ≤ j) (hm : ∀ j', 1 ≤ j' → j' < j → ¬ p ∣ c * j') : c * j ∣ 151200 := by
  have r0 : q % j = 0 := by
    apply Classical.byContradiction
    intro z
    have hr := Nat.mod_lt q (show j > 0 by omega)
    refine hm (q % j) (by omega) hr ?_
    have e : c * q = c * j * (q / j) + c * (q % j) := by
      rw [Nat.mul_assoc, ← Nat.mul_add, Nat.div_add_mod]
    rw [← hq] at e
    have d1 : p ∣ c * j * (q / j) := Nat.dvd_trans hj (Nat.dvd_mul_right _ _)
    exact (Nat.dvd_add_right d1).mp (e ▸ hp)
  obtain ⟨t, ht⟩ := Nat.dvd_of_mod_eq_zero r0
  exact ⟨t, by rw [hq, ht, Nat.mul_assoc]⟩
theorem lN_t {n : Nat} (h : n < 2 ^ 62) : (lN n).toInt = (n : Int) := lg_ofNat_toInt (by omega)
theorem lN_div {m d : Nat} (hm : m < 2 ^ 62) (h0 : 0 < d) (hd : d < 2 ^ 62) : lN m / lN d = lN (m / d) := by
  apply Int64.toInt_inj.mp
  have h1 : m / d ≤ m := Nat.div_le_self m d
  have h2 : (0 : Int) ≤ ((m / d : Nat) : Int) := Int.natCast_nonneg _
  rw [Int64.toInt_div, lN_t hm, lN_t hd, lN_t (by omega), Int.tdiv_eq_ediv_of_nonneg (Int.natCast_nonneg _)]
  have e : (m : Int) / (d : Int) = ((m / d : Nat) : Int) := rfl
  rw [e]
  exact Int.bmod_eq_of_le (by omega) (by omega)
theorem lN_mod {m d : Nat} (hm : m < 2 ^ 62) (h0 : 0 < d) (hd : d < 2 ^ 62) : lN m - lN m / lN d * lN d = lN (m % d) := by
  rw [lN_div hm h0 hd, lN_mul, lN_sub (Nat.div_mul_le_self m d)]
  congr 1
  have := Nat.div_add_mod m d
  rw [Nat.mul_comm] at this
  omega
theorem lN_z {n : Nat} (h : n < 2 ^ 62) : (lN n = 0) = (n = 0) := by
  refine propext ⟨fun z => ?_, fun z => by rw [z]; rfl⟩
  have := congrArg Int64.toInt z
  rw [lN_t h] at this
  have e : (0 : Int64).toInt = 0 := by decide
  omega
theorem lN_ne {a b : Nat} (ha : a < 2 ^ 62) (hb : b < 2 ^ 62) : (lN a = lN b) = (a = b) := by
  refine propext ⟨fun z => ?_, fun z => by rw [z]⟩
  have := congrArg Int64.toInt z
  rw [lN_t ha, lN_t hb] at this
  omega
/-! ===== what would make it again; the best of so many ===== -/
theorem pop_tb : ∀ i, i < 256 → popI (nI i) = nI ((popI (nI i)).toNatClampNeg) ∧ (popI (nI i)).toNatClampNeg ≤ 8 ∧ ((popI (nI i)).toNatClampNeg = 0 → i = 0) ∧ ((popI (nI i)).toNatClampNeg = 8 → i = 255) := by decide +kernel
def pcN (i : Nat) : Nat := (popI (nI i)).toNatClampNeg
theorem pop_is {i : Nat} (hi : i < 256) : popI (nI i) = nI (pcN i) ∧ pcN i ≤ 8 ∧ (pcN i = 0 → i = 0) ∧ (pcN i = 8 → i = 255) := pop_tb i hi
theorem pc_255 : pcN 255 = 8 := by decide +kernel
theorem pc_0 : pcN 0 = 0 := by decide +kernel
def okJ (E : ES) : Prop := ∀ t, t < 8 → ∃ v : Nat, v < 10 ∧ eJ E t = nI v
def jyN (E : ES) (x : Int32) (n : Nat) : Int32 := forN n (fun t a => if (x >>> (nI t &&& 31)) &&& 1 = 1 then a + eJ E t else a) 0
theorem jyN_s (E : ES) (x : Int32) (n : Nat) : jyN E x (n + 1) = if (x >>> (nI n &&& 31)) &&& 1 = 1 then jyN E x n + eJ E n else jyN E x n := rfl
theorem all_tb : ∀ t, t < 8 → ((255 : Int32) >>> (nI t &&& 31)) &&& 1 = 1 := by decide +kernel
theorem jy_is {E : ES} (h : okJ E) (x : Int32) : ∀ n, n ≤ 8 → ∃ a b : Nat, jyN E x n = nI a ∧ jyN E 255 n = nI b ∧ a ≤ b ∧ b ≤ 9 * n
  | 0, _ => ⟨0, 0, rfl, rfl, Nat.le_refl 0, Nat.le_refl 0⟩
  | n + 1, hn => by
    obtain ⟨a, b, h1, h2, h3_, h4⟩ := jy_is h x n (by omega)
    obtain ⟨v, hv, e⟩ := h n (by omega)
    rw [jyN_s, jyN_s, if_pos (all_tb n (by omega)), h1, h2, e, nI_add, nI_add]
    by_cases z : (x >>> (nI n &&& 31)) &&& 1 = 1
    · rw [if_pos z]; exact ⟨a + v, b + v, rfl, rfl, by omega, by omega⟩
    · rw [if_neg z]; exact ⟨a, b + v, rfl, rfl, by omega, by omega⟩
theorem joy_is {E : ES} (h : okJ E) (x : Int32) : ∃ a b : Nat, joyT E x = nI a ∧ joyT E 255 = nI b ∧ a ≤ b ∧ b ≤ 72 := jy_is h x 8 (by omega)
def joN (E : ES) (i : Nat) : Nat := (joyT E (nI i)).toNatClampNeg
theorem jo_is {E : ES} (h : okJ E) (i : Nat) : joyT E (nI i) = nI (joN E i) ∧ joN E i ≤ joN E 255 ∧ joN E 255 ≤ 72 := by
  obtain ⟨a, b, h1, h2, h3_, h4⟩ := joy_is h (nI i)
  have e1 : joN E i = a := by unfold joN; rw [h1, nI_clamp (by omega)]
  have e2 : joN E 255 = b := by
    unfold joN
    have h2 : joyT E (nI 255) = nI b := h2
    rw [h2, nI_clamp (by omega)]
  rw [e1, e2]; exact ⟨h1, h3_, h4⟩
theorem made_spec {E : ES} (h : okJ E) {j : Nat} (hj : j ≤ 99) : ∀ n, n ≤ 256 → (madeN E (nI j) n = -1 ∧ ∀ i, i < n → joN E i < j) ∨ ∃ m, m < n ∧ madeN E (nI j) n = nI m ∧ j ≤ joN E m ∧ ∀ i, i < n → j ≤ joN E i → pcN m ≤ pcN i
  | 0, _ => Or.inl ⟨rfl, fun i hi => absurd hi (Nat.not_lt_zero i)⟩
  | n + 1, hn => by
    obtain ⟨e1, e2, e3⟩ := jo_is h n
    obtain ⟨p1, p2, -⟩ := pop_is (i := n) (by omega)
    have hc : (nI j ≤ joyT E (nI n)) = (j ≤ joN E n) := by rw [e1, nI_lex (by omega) (by omega)]
    rw [madeN_s]
    rcases made_spec h hj n (by omega) with ⟨a1, a2⟩ | ⟨m, a1, a2, a3, a4⟩
    · by_cases z : j ≤ joN E n
      · rw [if_pos ⟨Or.inl a1, by rw [hc]; exact z⟩]
        refine Or.inr ⟨n, by omega, rfl, z, fun i hi hq => ?_⟩
        by_cases y : i = n
        · rw [y]; exact Nat.le_refl _
        · have := a2 i (by omega); omega
      · rw [if_neg (fun y => z (by rw [← hc]; exact y.2))]
        refine Or.inl ⟨a1, fun i hi => ?_⟩
        by_cases y : i = n
        · rw [y]; omega
        · exact a2 i (by omega)
    · obtain ⟨q1, q2, -⟩ := pop_is (i := m) (by omega)
      have m1 : ¬ madeN E (nI j) n = -1 := by rw [a2]; intro y; exact absurd (show nI m < 0 by rw [y]; decide) (nI_pos (by omega))
      have hp : (popI (nI n) < popI (madeN E (nI j) n)) = (pcN n < pcN m) := by rw [a2, p1, q1, nI_ltx (by omega) (by omega)]
      by_cases z : pcN n < pcN m ∧ j ≤ joN E n
      · rw [if_pos ⟨Or.inr (by rw [hp]; exact z.1), by rw [hc]; exact z.2⟩]
        refine Or.inr ⟨n, by omega, rfl, z.2, fun i hi hq => ?_⟩
        by_cases y : i = n
        · rw [y]; exact Nat.le_refl _
        · have := a4 i (by omega) hq; omega
      · rw [if_neg (fun y => z ⟨by rw [← hp]; exact y.1.resolve_left m1, by rw [← hc]; exact y.2⟩)]
        refine Or.inr ⟨m, by omega, a2, a3, fun i hi hq => ?_⟩
        by_cases y : i = n
        · rw [y]
          by_cases x : pcN n < pcN m
          · exact absurd ⟨x, by rw [← y]; exact hq⟩ z
          · omega
        · exact a4 i (by omega) hq
theorem best_spec {E : ES} (h : okJ E) {m : Nat} (hm : m ≤ 8) : ∀ n, n ≤ 256 → ∃ b, bestN E (nI m) n = nI b ∧ b ≤ 72 ∧ (∀ i, i < n → pcN i = m → joN E i ≤ b) ∧ (b = 0 ∨ ∃ i, i < n ∧ pcN i = m ∧ joN E i = b)
  | 0, _ => ⟨0, rfl, by omega, fun i hi => absurd hi (Nat.not_lt_zero i), Or.inl rfl⟩
  | n + 1, hn => by
    obtain ⟨b, b1, b2, b3, b4⟩ := best_spec h hm n (by omega)
    obtain ⟨e1, e2, e3⟩ := jo_is h n
    obtain ⟨p1, p2, -⟩ := pop_is (i := n) (by omega)
    have hp : (popI (nI n) = nI m) = (pcN n = m) := by rw [p1, kq (by omega) (by omega)]
    have hl : (bestN E (nI m) n < joyT E (nI n)) = (b < joN E n) := by rw [b1, e1, nI_ltx (by omega) (by omega)]
    rw [bestN_s]
    by_cases z : pcN n = m
    · rw [if_pos (by rw [hp]; exact z)]
      by_cases y : b < joN E n
      · rw [if_pos (by rw [hl]; exact y), e1]
        refine ⟨joN E n, rfl, by omega, fun i hi hq => ?_, Or.inr ⟨n, by omega, z, rfl⟩⟩
        by_cases x : i = n
        · rw [x]; exact Nat.le_refl _
        · have := b3 i (by omega) hq; omega
      · rw [if_neg (by rw [hl]; exact y), b1]
        refine ⟨b, rfl, b2, fun i hi hq => ?_, b4.imp id (fun ⟨i, q1, q2⟩ => ⟨i, by omega, q2⟩)⟩
        by_cases x : i = n
        · rw [x]; omega
        · exact b3 i (by omega) hq
    · rw [if_neg (by rw [hp]; exact z), b1]
      refine ⟨b, rfl, b2, fun i hi hq => ?_, b4.imp id (fun ⟨i, q1, q2⟩ => ⟨i, by omega, q2⟩)⟩
      by_cases x : i = n
      · rw [x] at hq; exact absurd hq z
      · exact b3 i (by omega) hq
/-- MADE and BEST fit -/
theorem made_law {E : ES} (h : okJ E) {j : Nat} (hj : j ≤ 99) : (madeN E (nI j) 256 = -1 ∧ bestN E (nI 8) 256 < nI j) ∨ ∃ m, m < 256 ∧ madeN E (nI j) 256 = nI m ∧ ¬ bestN E (nI 8) 256 < nI j ∧ ¬ joyT E (nI m) < nI j ∧ ¬ bestN E (nI (pcN m)) 256 < joyT E (nI m) ∧ (0 < m → 1 ≤ pcN m ∧ bestN E (nI (pcN m - 1)) 256 < nI j) := by
  obtain ⟨b8, a1, a2, a3, a4⟩ := best_spec h (m := 8) (by omega) 256 (Nat.le_refl _)
  have f := (jo_is h 255).2.2
  have v8 : b8 = joN E 255 := by
    have := a3 255 (by omega) pc_255
    rcases a4 with q | ⟨i, q1, q2, q3⟩
    · omega
    · rw [(pop_is q1).2.2.2 q2] at q3; exact q3.symm
  have h8 : (bestN E (nI 8) 256 < nI j) = (joN E 255 < j) := by rw [a1, nI_ltx (by omega) (by omega), v8]
  rcases made_spec h hj 256 (Nat.le_refl _) with ⟨c1, c2⟩ | ⟨m, c1, c2, c3, c4⟩
  · exact Or.inl ⟨c1, by rw [h8]; exact c2 255 (by omega)⟩
  · obtain ⟨e1, e2, e3⟩ := jo_is h m
    obtain ⟨p1, p2, p3, -⟩ := pop_is c1
    refine Or.inr ⟨m, c1, c2, by rw [h8]; omega, by rw [e1, nI_ltx (by omega) (by omega)]; omega, ?_, fun h0 => ?_⟩
    · obtain ⟨b, d1, d2, d3, d4⟩ := best_spec h p2 256 (Nat.le_refl _)
      have := d3 m c1 rfl
      rw [d1, e1, nI_ltx (by omega) (by omega)]; omega
    · have q1 : 1 ≤ pcN m := by
        by_cases z : pcN m = 0
        · have := p3 z; omega
        · omega
      refine ⟨q1, ?_⟩
      obtain ⟨b, d1, d2, d3, d4⟩ := best_spec h (m := pcN m - 1) (by omega) 256 (Nat.le_refl _)
      rw [d1, nI_ltx (by omega) (by omega)]
      rcases d4 with z | ⟨i, z1, z2, z3⟩
      · by_cases y : j = 0
        · have := c4 0 (by omega) (by omega)
          rw [pc_0] at this
          omega
        · omega
      · by_cases y : j ≤ joN E i
        · have := c4 i z1 y; omega
        · omega
