variable {nn : Nat}
/-! ===== steps, who is under whom, and what part is whose ===== -/
theorem kF_eq {a b : Int32} (h : ¬ a = b) : (a = b) = False := eq_false h
theorem step_z (d : Nat) : nI d + nI d - 2 * nI d = 0 := by
  rw [show (2 : Int32) = nI 2 from rfl, nI_mulN, nI_add, show d + d = 2 * d by omega]
  exact Int32.sub_self _
theorem step_1 {d : Nat} (hd : d < 1000) : nI d + nI (1 + d) - 2 * nI d = 1 := by
  rw [show (2 : Int32) = nI 2 from rfl, nI_mulN, nI_add, nI_sub (by omega) (by omega), show d + (1 + d) - 2 * d = 1 by omega]
  rfl
theorem dp_le {E : ES} (h : tre E) : ∀ v, v ≤ cnt E → dp E v ≤ v := by
  have key : ∀ n v, v ≤ n → v ≤ cnt E → dp E v ≤ v := by
    intro n
    induction n with
    | zero => intro v hv _; rw [show v = 0 by omega]; exact Nat.le_refl 0
    | succ n ih =>
      intro v hv hc
      cases v with
      | zero => exact Nat.le_refl 0
      | succ v =>
        have e := (fN_is h (show v < cnt E by omega)).2
        have := ih (fN E v) (by omega) (by omega)
        rw [dp_s h (by omega)]
        omega
  exact fun v hv => key v v (Nat.le_refl v) hv
theorem tI_m1 {w : Nat} (hw : w ≤ 10) : (tI w = -1) ↔ w = 0 := ⟨fun z => tI_inj hw (Nat.zero_le _) (z.trans tI_0.symm), fun z => by rw [z]; exact tI_0⟩
theorem kn_le {E : ES} (h : tre E) {v u : Nat} (hv : v ≤ cnt E) (hu : u ≤ cnt E) : kn E v u ≤ v := by
  rcases kn_spec h u hu v hv with ⟨a1, a2⟩ | ⟨a1, a2, a3⟩
  · omega
  · exact (an_le h _ v hv a1).2
theorem step_sym {E : ES} (h : tre E) {i j : Nat} (hi : i < cnt E) (hj : j < cnt E) : stepE E (nI i) (nI j) = stepE E (nI j) (nI i) := by
  unfold stepE
  rw [kin_is h hi hj, kin_is h hj hi, kn_sym h (v := i + 1) (u := j + 1) (by omega) (by omega), Int32.add_comm (lineE E (nI i))]
theorem step_self {E : ES} (h : tre E) {x : Nat} (hx : x < cnt E) : stepE E (nI x) (nI x) = 0 := by
  have hn := h.1
  unfold stepE
  rw [kin_is h hx hx, kn_self h hx, tI_s, if_neg (m1_ne (by omega)), line_is h hx]
  exact step_z _
theorem step_par {E : ES} (h : tre E) {x j : Nat} (hx : x < cnt E) (hj : fN E x = j + 1) : stepE E (nI j) (nI x) = 1 := by
  have hn := h.1
  have e := (fN_is h hx).2
  have k1 := kn_par h hx (by omega)
  rw [hj] at k1
  unfold stepE
  rw [kin_is h (by omega) hx, kn_sym h (by omega) (by omega), k1, tI_s, if_neg (m1_ne (by omega)), line_is h hx, line_is h (show j < cnt E by omega), hj, dp_s h (by omega)]
  have := dp_le h (fN E j) (by have := (fN_is h (show j < cnt E by omega)).2; omega)
  have e2 := (fN_is h (show j < cnt E by omega)).2
  exact step_1 (by omega)
theorem line_par {E : ES} (h : tre E) {x j : Nat} (hx : x < cnt E) (hj : fN E x = j + 1) : lineE E (nI x) = lineE E (nI j) + 1 := by
  have e := (fN_is h hx).2
  rw [line_is h hx, line_is h (show j < cnt E by omega), hj, dp_s h (by omega), nI_1, Nat.add_comm]
theorem line_0 {E : ES} (h : tre E) {x : Nat} (hx : x < cnt E) (hj : fN E x = 0) : lineE E (nI x) = 0 := by
  rw [line_is h hx, hj]; rfl
theorem kin_self {E : ES} (h : tre E) {x : Nat} (hx : x < cnt E) : kinE E (nI x) (nI x) = nI x := by
  rw [kin_is h hx hx, kn_self h hx, tI_s]
theorem kin_par {E : ES} (h : tre E) {x j : Nat} (hx : x < cnt E) (hj : fN E x = j + 1) : kinE E (nI x) (nI j) = nI j := by
  have e := (fN_is h hx).2
  have k1 := kn_par h hx (by omega)
  rw [hj] at k1
  rw [kin_is h hx (by omega), k1, tI_s]
theorem kin_sym {E : ES} (h : tre E) {i j : Nat} (hi : i < cnt E) (hj : j < cnt E) : kinE E (nI i) (nI j) = kinE E (nI j) (nI i) := by
  rw [kin_is h hi hj, kin_is h hj hi, kn_sym h (v := i + 1) (u := j + 1) (by omega) (by omega)]
/-- UNDER one, as bits -/
theorem under_bits {E : ES} (h : tre E) {x : Nat} (hx : x < cnt E) : ∃ r, r < 1024 ∧ underE E (nI x) = nI r ∧ ∀ c, r.testBit c = true ↔ c < cnt E ∧ c ≠ x ∧ an E (c + 1) (x + 1) = true := by
  have hn := h.1
  have key : ∀ n, n ≤ cnt E → ∃ r, r < 1024 ∧ forN n (fun i a => if ¬ nI i = nI x ∧ (lineR E 10 (nI i) 0 >>> (nI x &&& 31)) &&& 1 = 1 then a ||| ((1 : Int32) <<< (nI i &&& 31)) else a) 0 = nI r ∧ ∀ c, r.testBit c = true ↔ c < n ∧ c ≠ x ∧ an E (c + 1) (x + 1) = true := by
    intro n
    induction n with
    | zero => intro _; exact ⟨0, by omega, rfl, fun c => by simp⟩
    | succ n ih =>
      intro hn2
      obtain ⟨r, h1, h2, h4⟩ := ih (by omega)
      rw [forN_s, h2]
      have hq : (¬ nI n = nI x ∧ (lineR E 10 (nI n) 0 >>> (nI x &&& 31)) &&& 1 = 1) ↔ (n ≠ x ∧ an E (n + 1) (x + 1) = true) := by
        rw [kq (by omega) (by omega), an_bit h (by omega) (by omega)]
      by_cases q : n ≠ x ∧ an E (n + 1) (x + 1) = true
      · obtain ⟨o1, o2⟩ := or_tb n (by omega) r h1
        rw [if_pos (hq.mpr q), o1]
        refine ⟨_, o2, rfl, fun c => ?_⟩
        rw [Nat.testBit_or, Bool.or_eq_true, h4, Nat.testBit_two_pow, decide_eq_true_eq]
        constructor
        · rintro (⟨z1, z2, z3⟩ | z)
          · exact ⟨by omega, z2, z3⟩
          · rw [← z]; exact ⟨by omega, q.1, q.2⟩
        · rintro ⟨z1, z2, z3⟩
          by_cases z : c = n
          · exact Or.inr z.symm
          · exact Or.inl ⟨by omega, z2, z3⟩
      · rw [if_neg (fun z => q (hq.mp z))]
        refine ⟨r, h1, rfl, fun c => ?_⟩
        rw [h4]
        constructor
        · rintro ⟨z1, z2, z3⟩; exact ⟨by omega, z2, z3⟩
        · rintro ⟨z1, z2, z3⟩
          by_cases z : c = n
          · rw [z] at z2 z3; exact absurd ⟨z2, z3⟩ q
          · exact ⟨by omega, z2, z3⟩
  exact key (cnt E) (Nat.le_refl _)
theorem under_par {E : ES} (h : tre E) {x j : Nat} (hx : x < cnt E) (hj : fN E x = j + 1) : ¬ (underE E (nI j) >>> (nI x &&& 31)) &&& 1 = 0 := by
  have hn := h.1
  have e := (fN_is h hx).2
  obtain ⟨r, h1, h2, h4⟩ := under_bits h (x := j) (by omega)
  have b : r.testBit x = true := (h4 x).mpr ⟨hx, by omega, by rw [← hj]; exact an_par h hx (by omega)⟩
  rw [h2, (bit_tb x (by omega) r h1).mpr b]
  decide
theorem and_not {a b : Nat} (h : ∀ c, a.testBit c = true → b.testBit c = true) : nI a &&& (nI b ^^^ -1) = 0 := by
  apply Int32.toBitVec_inj.mp
  show BitVec.ofNat 32 a &&& (BitVec.ofNat 32 b ^^^ (-1 : Int32).toBitVec) = 0#32
  rw [show (-1 : Int32).toBitVec = BitVec.allOnes 32 by decide]
  apply BitVec.eq_of_getLsbD_eq
  intro i hi
  rw [BitVec.getLsbD_and, BitVec.getLsbD_xor, BitVec.getLsbD_ofNat, BitVec.getLsbD_ofNat, BitVec.getLsbD_allOnes, BitVec.getLsbD_zero, decide_eq_true hi, Bool.true_and, Bool.true_and]
  have := h i
  cases ha : a.testBit i with
  | false => rfl
  | true => rw [this ha]; rfl
theorem under_sub {E : ES} (h : tre E) {x j : Nat} (hx : x < cnt E) (hj : fN E x = j + 1) : underE E (nI x) &&& (underE E (nI j) ^^^ -1) = 0 := by
  have e := (fN_is h hx).2
  obtain ⟨r, h1, h2, h4⟩ := under_bits h hx
  obtain ⟨s, g1, g2, g4⟩ := under_bits h (x := j) (by omega)
  rw [h2, g2]
  refine and_not (fun c hc => ?_)
  obtain ⟨z1, z2, z3⟩ := (h4 c).mp hc
  have l := (an_le h _ (c + 1) (by omega) z3).2
  refine (g4 c).mpr ⟨z1, by omega, ?_⟩
  refine an_tr h (w := x + 1) (by omega) ?_ (c + 1) (by omega) z3
  rw [← hj]; exact an_par h hx (by omega)
/-- nobody is under one just if nobody is FROM him -/
theorem under_0 {E : ES} (h : tre E) {x : Nat} (hx : x < cnt E) : underE E (nI x) = 0 ↔ ∀ i, i < cnt E → fN E i ≠ x + 1 := by
  have hn := h.1
  obtain ⟨r, h1, h2, h4⟩ := under_bits h hx
  have e0 : (nI r = 0) ↔ r = 0 := by rw [show (0 : Int32) = nI 0 from rfl, kq (by omega) (by omega)]
  rw [h2, e0]
  constructor
  · intro z i hi q
    have := (h4 i).mpr ⟨hi, by have := (fN_is h hi).2; omega, by rw [← q]; exact an_par h hi (by omega)⟩
    rw [z, Nat.zero_testBit] at this
    cases this
  · intro z
    apply Nat.eq_of_testBit_eq
    intro c
    rw [Nat.zero_testBit]
    cases hc : r.testBit c with
    | false => rfl
    | true =>
      exfalso
      obtain ⟨z1, z2, z3⟩ := (h4 c).mp hc
      have key : ∀ n v, v ≤ n → v < cnt E → v ≠ x → an E (v + 1) (x + 1) = true → False := by
        intro n
        induction n with
        | zero =>
          intro v hv hc2 q1 q2
          rw [an_s h hc2, Bool.or_eq_true, decide_eq_true_eq] at q2
          rcases q2 with q2 | q2
          · omega
          · have e := (fN_is h hc2).2
            rw [show fN E v = 0 by omega] at q2
            cases q2
        | succ n ih =>
          intro v hv hc2 q1 q2
          have e := (fN_is h hc2).2
          rw [an_s h hc2, Bool.or_eq_true, decide_eq_true_eq] at q2
          rcases q2 with q2 | q2
          · omega
          · have l := an_le h _ (fN E v) (by omega) q2
            by_cases y : fN E v = x + 1
            · exact z v hc2 y
            · refine ih (fN E v - 1) (by omega) (by omega) (by omega) ?_
              rw [show fN E v - 1 + 1 = fN E v by omega]; exact q2
      exact key c c (Nat.le_refl c) z1 z2 z3
/-! the parts: each divides 151200 -/
def okP (s : Nat) : List Nat :=
  match s with
  | 0 => [1]
  | 1 => [1]
  | 2 => [1, 2]
  | 3 => [1, 2, 3]
  | 4 => [1, 2, 3, 4]
  | 5 => [1, 2, 3, 4, 5, 6]
  | 6 => [1, 2, 3, 4, 5, 6, 8, 9]
  | 7 => [1, 2, 3, 4, 5, 6, 7, 8, 9, 10, 12]
  | 8 => [1, 2, 3, 4, 5, 6, 7, 8, 9, 10, 12, 15, 16, 18]
  | 9 => [1, 2, 3, 4, 5, 6, 7, 8, 9, 10, 12, 14, 15, 16, 18, 20, 24, 27]
  | 10 => [1, 2, 3, 4, 5, 6, 7, 8, 9, 10, 12, 14, 15, 16, 18, 20, 21, 24, 25, 27, 30, 32, 36]
  | _ => []
theorem okP_b : ∀ s, s ≤ 10 → ∀ c, c ≤ 10 → (!(decide (1 ≤ c) && decide (s + c ≤ 10)) || (okP s).all (fun p => (okP (s + c)).contains (c * p))) = true := by decide +kernel
theorem okP_m (s : Nat) (hs : s ≤ 10) (p : Nat) (hp : p ∈ okP s) (c : Nat) (hc : c ≤ 10) (h1 : 1 ≤ c) (h2 : s + c ≤ 10) : c * p ∈ okP (s + c) := by
  have h := okP_b s hs c hc
  rw [decide_eq_true h1, decide_eq_true h2] at h
  have h3 : (okP s).all (fun p => (okP (s + c)).contains (c * p)) = true := h
  have h4 := List.all_eq_true.mp h3 p hp
  exact List.contains_iff_mem.mp h4
theorem okP_u : ∀ s, s ≤ 9 → ∀ p ∈ okP s, p ∈ okP (s + 1) := by decide +kernel
theorem okP_d : ∀ s, s ≤ 10 → ∀ p ∈ okP s, p ∣ 151200 ∧ 1 ≤ p ∧ p ≤ 36 := by decide +kernel
def sgN (E : ES) : Nat → Nat
  | 0 => 0
  | v + 1 => sgN E v + cN E v (cnt E)
theorem sgN_s (E : ES) (v : Nat) : sgN E (v + 1) = sgN E v + cN E v (cnt E) := rfl
theorem sgN_m (E : ES) : ∀ {a b : Nat}, a ≤ b → sgN E a ≤ sgN E b := by
  intro a b hab
  induction b with
  | zero => rw [show a = 0 by omega]; exact Nat.le_refl _
  | succ b ih =>
    by_cases z : a = b + 1
    · rw [z]; exact Nat.le_refl _
    · have := ih (by omega)
      rw [sgN_s]; omega
theorem okP_up {a b p : Nat} (hab : a ≤ b) (hb : b ≤ 10) (h : p ∈ okP a) : p ∈ okP b := by
  induction b with
  | zero => rw [show a = 0 by omega] at h; exact h
  | succ b ih =>
    by_cases z : a = b + 1
    · rw [z] at h; exact h
    · exact okP_u b (by omega) p (ih (by omega) (by omega))
def cMN (E : ES) (n : Nat) : Nat → Nat
  | 0 => 0
  | v + 1 => cMN E n v + cN E v n
theorem cM_all {E : ES} (n : Nat) : ∀ m, cMN E n m ≤ n := by
  have key : ∀ m, ∀ n, cMN E (n + 1) m = cMN E n m + (if fN E n < m then 1 else 0) := by
    intro m
    induction m with
    | zero => intro n; rfl
    | succ m ih =>
      intro n
      show cMN E (n + 1) m + cN E m (n + 1) = cMN E n m + cN E m n + _
      rw [ih n, cN_s]
      by_cases a : fN E n < m
      · rw [if_pos a, if_neg (by omega), if_pos (by omega)]; omega
      · by_cases b : fN E n = m
        · rw [if_neg a, if_pos b, if_pos (by omega)]; omega
        · rw [if_neg a, if_neg b, if_neg (by omega)]; omega
  intro m
  induction n with
  | zero =>
    have : ∀ m, cMN E 0 m = 0 := by
      intro m
      induction m with
      | zero => rfl
      | succ m ih => show cMN E 0 m + 0 = 0; rw [ih]
    rw [this]; exact Nat.le_refl 0
  | succ n ih =>
    rw [key]
    split <;> omega
theorem sg_cM (E : ES) : ∀ v, sgN E v = cMN E (cnt E) v
  | 0 => rfl
  | v + 1 => by rw [sgN_s, sg_cM E v]; rfl
theorem cN_pos {E : ES} {v : Nat} : ∀ n i, i < n → fN E i = v → 1 ≤ cN E v n
  | 0, i, h, _ => absurd h (Nat.not_lt_zero i)
  | n + 1, i, h, q => by
    rw [cN_s]
    by_cases z : i = n
    · rw [if_pos (by rw [← z]; exact q)]; omega
    · have := cN_pos n i (by omega) q; omega
theorem pt_ok {E : ES} (h : tre E) : ∀ v, v ≤ cnt E → pt E v ∈ okP (sgN E v) := by
  have hn := h.1
  have hs : ∀ v, sgN E v ≤ 10 := fun v => by rw [sg_cM]; have := cM_all (E := E) (cnt E) v; omega
  have key : ∀ n v, v ≤ n → v ≤ cnt E → pt E v ∈ okP (sgN E v) := by
    intro n
    induction n with
    | zero => intro v hv _; rw [show v = 0 by omega]; exact List.mem_singleton.mpr rfl
    | succ n ih =>
      intro v hv hc
      cases v with
      | zero => exact List.mem_singleton.mpr rfl
      | succ v =>
        have e := (fN_is h (show v < cnt E by omega)).2
        rw [pt_s h (by omega)]
        have i1 := ih (fN E v) (by omega) (by omega)
        have c1 := cN_pos (E := E) (v := fN E v) (cnt E) v (by omega) rfl
        have e2 : sgN E (fN E v + 1) = sgN E (fN E v) + cN E (fN E v) (cnt E) := rfl
        have h1 := hs (fN E v + 1)
        have c2 := cN_le E (fN E v) (cnt E)
        have m := okP_m (sgN E (fN E v)) (hs _) _ i1 (cN E (fN E v) (cnt E)) (by omega) c1 (by omega)
        exact okP_up (sgN_m E (show fN E v + 1 ≤ v + 1 by omega)) (hs _) m
  exact fun v hv => key v v (Nat.le_refl v) hv
theorem pt_d {E : ES} (h : tre E) {v : Nat} (hv : v ≤ cnt E) : pt E v ∣ 151200 ∧ 1 ≤ pt E v ∧ pt E v ≤ 36 := by
  have hn := h.1
  have hs : sgN E v ≤ 10 := by rw [sg_cM]; have := cM_all (E := E) (cnt E) v; omega
  exact okP_d _ hs _ (pt_ok h v hv)
