variable {nn : Nat}
/-! ===== the tree, in plain numbers: 0 is nobody, v + 1 the HEIR v ===== -/
def tI (v : Nat) : Int32 := nI v - 1
theorem tI_0 : tI 0 = -1 := by decide
theorem tI_s (v : Nat) : tI (v + 1) = nI v := nI_pred v
theorem tI_inj {a b : Nat} (ha : a ≤ 10) (hb : b ≤ 10) (h : tI a = tI b) : a = b := by
  have h2 : nI a = nI b := by
    have h3 : nI a - 1 + 1 = nI b - 1 + 1 := congrArg (fun z => z + 1) h
    rw [f_1, f_1] at h3
    exact h3
  rw [kq (by omega) (by omega)] at h2
  exact h2
def fN (E : ES) (i : Nat) : Nat := (eF E i 2 + 1).toNatClampNeg
/-- a tree: at most ten, each FROM one ahead of him -/
def tre (E : ES) : Prop := cnt E ≤ 10 ∧ okT E
theorem fN_is {E : ES} (h : tre E) {i : Nat} (hi : i < cnt E) : eF E i 2 = tI (fN E i) ∧ fN E i ≤ i := by
  have hn := h.1
  unfold fN
  rcases h.2 i hi with q | ⟨j, h1, q⟩
  · rw [q]; exact ⟨by decide, Nat.zero_le _⟩
  · rw [q, nI_1, nI_clamp (by omega), tI_s]; exact ⟨rfl, h1⟩
theorem par_is {E : ES} (h : tre E) {v : Nat} (hv : v < cnt E) : parE E (nI v) = tI (fN E v) := by
  have hn := h.1
  rw [parE_n (by omega)]; exact (fN_is h hv).1
def cN (E : ES) (v : Nat) : Nat → Nat
  | 0 => 0
  | n + 1 => cN E v n + (if fN E n = v then 1 else 0)
theorem cN_s (E : ES) (v n : Nat) : cN E v (n + 1) = cN E v n + (if fN E n = v then 1 else 0) := rfl
theorem cN_le (E : ES) (v : Nat) : ∀ n, cN E v n ≤ n
  | 0 => Nat.le_refl 0
  | n + 1 => by
    have := cN_le E v n
    rw [cN_s]
    split <;> omega
theorem from_is {E : ES} (h : tre E) {v : Nat} (hv : v ≤ 10) : fromN E (tI v) = nI (cN E v (cnt E)) := by
  have hn := h.1
  have key : ∀ n, n ≤ cnt E → forN n (fun i a => if eF E i 2 = tI v then a + 1 else a) (0 : Int32) = nI (cN E v n) := by
    intro n
    induction n with
    | zero => intro _; rfl
    | succ n ih =>
      intro hn2
      obtain ⟨e1, e2⟩ := fN_is h (show n < cnt E by omega)
      rw [forN_s, ih (by omega), e1]
      rw [cN_s]
      by_cases z : fN E n = v
      · rw [if_pos z, if_pos (by rw [z])]; exact nI_1 _
      · rw [if_neg z, if_neg (fun y => z (tI_inj (by omega) hv y)), Nat.add_zero]
  exact key (cnt E) (Nat.le_refl _)
def ptZ (E : ES) : Nat → Nat → Nat
  | 0, _ => 1
  | _ + 1, 0 => 1
  | k + 1, v + 1 => cN E (fN E v) (cnt E) * ptZ E k (fN E v)
def dpZ (E : ES) : Nat → Nat → Nat
  | 0, _ => 0
  | _ + 1, 0 => 0
  | k + 1, v + 1 => 1 + dpZ E k (fN E v)
def anZ (E : ES) (w : Nat) : Nat → Nat → Bool
  | 0, _ => false
  | _ + 1, 0 => false
  | k + 1, v + 1 => decide (v + 1 = w) || anZ E w k (fN E v)
def knZ (E : ES) (u : Nat) : Nat → Nat → Nat
  | 0, _ => 0
  | _ + 1, 0 => 0
  | k + 1, v + 1 => if anZ E (v + 1) 10 u = true then v + 1 else knZ E u k (fN E v)
theorem ptZ_k {E : ES} (h : tre E) : ∀ k k' v, v ≤ k → v ≤ k' → v ≤ cnt E → ptZ E k v = ptZ E k' v
  | 0, 0, v, _, _, _ => rfl
  | 0, k' + 1, v, h1, _, _ => by rw [show v = 0 by omega]; rfl
  | k + 1, 0, v, _, h2, _ => by rw [show v = 0 by omega]; rfl
  | k + 1, k' + 1, 0, _, _, _ => rfl
  | k + 1, k' + 1, v + 1, h1, h2, h3 => by
    have e := (fN_is h (show v < cnt E by omega)).2
    unfold ptZ
    rw [ptZ_k h k k' (fN E v) (by omega) (by omega) (by omega)]
theorem dpZ_k {E : ES} (h : tre E) : ∀ k k' v, v ≤ k → v ≤ k' → v ≤ cnt E → dpZ E k v = dpZ E k' v
  | 0, 0, v, _, _, _ => rfl
  | 0, k' + 1, v, h1, _, _ => by rw [show v = 0 by omega]; rfl
  | k + 1, 0, v, _, h2, _ => by rw [show v = 0 by omega]; rfl
  | k + 1, k' + 1, 0, _, _, _ => rfl
  | k + 1, k' + 1, v + 1, h1, h2, h3 => by
    have e := (fN_is h (show v < cnt E by omega)).2
    unfold dpZ
    rw [dpZ_k h k k' (fN E v) (by omega) (by omega) (by omega)]
theorem anZ_k {E : ES} (h : tre E) (w : Nat) : ∀ k k' v, v ≤ k → v ≤ k' → v ≤ cnt E → anZ E w k v = anZ E w k' v
  | 0, 0, v, _, _, _ => rfl
  | 0, k' + 1, v, h1, _, _ => by rw [show v = 0 by omega]; rfl
  | k + 1, 0, v, _, h2, _ => by rw [show v = 0 by omega]; rfl
  | k + 1, k' + 1, 0, _, _, _ => rfl
  | k + 1, k' + 1, v + 1, h1, h2, h3 => by
    have e := (fN_is h (show v < cnt E by omega)).2
    unfold anZ
    rw [anZ_k h w k k' (fN E v) (by omega) (by omega) (by omega)]
theorem knZ_k {E : ES} (h : tre E) (u : Nat) : ∀ k k' v, v ≤ k → v ≤ k' → v ≤ cnt E → knZ E u k v = knZ E u k' v
  | 0, 0, v, _, _, _ => rfl
  | 0, k' + 1, v, h1, _, _ => by rw [show v = 0 by omega]; rfl
  | k + 1, 0, v, _, h2, _ => by rw [show v = 0 by omega]; rfl
  | k + 1, k' + 1, 0, _, _, _ => rfl
  | k + 1, k' + 1, v + 1, h1, h2, h3 => by
    have e := (fN_is h (show v < cnt E by omega)).2
    unfold knZ
    rw [knZ_k h u k k' (fN E v) (by omega) (by omega) (by omega)]
def pt (E : ES) (v : Nat) : Nat := ptZ E 10 v
def dp (E : ES) (v : Nat) : Nat := dpZ E 10 v
def an (E : ES) (v w : Nat) : Bool := anZ E w 10 v
def kn (E : ES) (v u : Nat) : Nat := knZ E u 10 v
theorem pt_0 (E : ES) : pt E 0 = 1 := rfl
theorem dp_0 (E : ES) : dp E 0 = 0 := rfl
theorem an_0 (E : ES) (w : Nat) : an E 0 w = false := rfl
theorem kn_0 (E : ES) (u : Nat) : kn E 0 u = 0 := rfl
theorem pt_s {E : ES} (h : tre E) {v : Nat} (hv : v < cnt E) : pt E (v + 1) = cN E (fN E v) (cnt E) * pt E (fN E v) := by
  have e := (fN_is h hv).2
  have hn := h.1
  show cN E (fN E v) (cnt E) * ptZ E 9 (fN E v) = _
  rw [ptZ_k h 9 10 (fN E v) (by omega) (by omega) (by omega)]; rfl
theorem dp_s {E : ES} (h : tre E) {v : Nat} (hv : v < cnt E) : dp E (v + 1) = 1 + dp E (fN E v) := by
  have e := (fN_is h hv).2
  have hn := h.1
  show 1 + dpZ E 9 (fN E v) = _
  rw [dpZ_k h 9 10 (fN E v) (by omega) (by omega) (by omega)]; rfl
theorem an_s {E : ES} (h : tre E) {v : Nat} (hv : v < cnt E) (w : Nat) : an E (v + 1) w = (decide (v + 1 = w) || an E (fN E v) w) := by
  have e := (fN_is h hv).2
  have hn := h.1
  show (decide (v + 1 = w) || anZ E w 9 (fN E v)) = _
  rw [anZ_k h w 9 10 (fN E v) (by omega) (by omega) (by omega)]; rfl
theorem kn_s {E : ES} (h : tre E) {v : Nat} (hv : v < cnt E) (u : Nat) : kn E (v + 1) u = if an E u (v + 1) = true then v + 1 else kn E (fN E v) u := by
  have e := (fN_is h hv).2
  have hn := h.1
  show (if anZ E (v + 1) 10 u = true then v + 1 else knZ E u 9 (fN E v)) = _
  rw [knZ_k h u 9 10 (fN E v) (by omega) (by omega) (by omega)]; rfl
theorem m1_ne {v : Nat} (hv : v < 10) : ¬ nI v = -1 := of_eq_false (nI_m1 hv)
theorem partR_is {E : ES} (h : tre E) : ∀ k v p, v ≤ cnt E → partR E k (tI v) p = p * nI (ptZ E k v)
  | 0, v, p, _ => by
    show p = p * nI 1
    exact (Int32.mul_one p).symm
  | k + 1, 0, p, _ => by
    rw [partR_s, tI_0, if_pos rfl]
    exact (Int32.mul_one p).symm
  | k + 1, v + 1, p, hv => by
    have hn := h.1
    have e := (fN_is h (show v < cnt E by omega)).2
    rw [partR_s, tI_s, if_neg (m1_ne (by omega)), par_is h (by omega), from_is h (by omega), partR_is h k _ _ (by omega)]
    show p * nI (cN E (fN E v) (cnt E)) * nI (ptZ E k (fN E v)) = p * nI (cN E (fN E v) (cnt E) * ptZ E k (fN E v))
    rw [← nI_mulN, Int32.mul_assoc]
theorem part_is {E : ES} (h : tre E) {x : Nat} (hx : x < cnt E) : partR E 10 (nI x) 1 = nI (pt E (x + 1)) := by
  rw [← tI_s, partR_is h 10 (x + 1) 1 (by omega), Int32.one_mul]; rfl
theorem genR_is {E : ES} (h : tre E) : ∀ k v g, v ≤ cnt E → genR E k (tI v) g = g + nI (dpZ E k v)
  | 0, v, g, _ => (Int32.add_zero g).symm
  | k + 1, 0, g, _ => by
    rw [genR_s, tI_0, if_pos rfl]
    exact (Int32.add_zero g).symm
  | k + 1, v + 1, g, hv => by
    have hn := h.1
    have e := (fN_is h (show v < cnt E by omega)).2
    rw [genR_s, tI_s, if_neg (m1_ne (by omega)), par_is h (by omega), genR_is h k _ _ (by omega)]
    show g + 1 + nI (dpZ E k (fN E v)) = g + nI (1 + dpZ E k (fN E v))
    rw [← nI_add, Int32.add_assoc]; rfl
theorem line_is {E : ES} (h : tre E) {x : Nat} (hx : x < cnt E) : lineE E (nI x) = nI (dp E (fN E x)) := by
  have hn := h.1
  have e := (fN_is h hx).2
  unfold lineE
  rw [par_is h hx, genR_is h 10 _ _ (by omega), Int32.zero_add]; rfl
theorem ofR_is {E : ES} (h : tre E) {d : Nat} (hd : d < 10) : ∀ k v, v ≤ cnt E → ofR E k (tI v) (nI d) = anZ E (d + 1) k v
  | 0, v, _ => rfl
  | k + 1, 0, _ => by rw [ofR_s, tI_0, if_pos rfl]; rfl
  | k + 1, v + 1, hv => by
    have hn := h.1
    have e := (fN_is h (show v < cnt E by omega)).2
    rw [ofR_s, tI_s, if_neg (m1_ne (by omega)), par_is h (by omega), ofR_is h hd k _ (by omega)]
    show _ = (decide (v + 1 = d + 1) || anZ E (d + 1) k (fN E v))
    by_cases z : v = d
    · rw [if_pos (by rw [z]), decide_eq_true (by omega)]; rfl
    · rw [if_neg (by rw [kq (by omega) (by omega)]; exact z), decide_eq_false (by omega)]; rfl
/-- the bits of a line -/
theorem an_bit {E : ES} (h : tre E) {i d : Nat} (hi : i < cnt E) (hd : d < 10) : ((lineR E 10 (nI i) 0 >>> (nI d &&& 31)) &&& 1 = 1) ↔ an E (i + 1) (d + 1) = true := by
  rw [line_bit h.1 h.2 hi hd, ← tI_s i, ofR_is h hd 10 _ (by omega)]; rfl
theorem kinR_is {E : ES} (h : tre E) {j : Nat} (hj : j < cnt E) : ∀ k v, v ≤ cnt E → kinR E k (lineR E 10 (nI j) 0) (tI v) = tI (knZ E (j + 1) k v)
  | 0, v, _ => tI_0.symm
  | k + 1, 0, _ => by rw [kinR_s, tI_0, if_pos rfl]; exact tI_0.symm
  | k + 1, v + 1, hv => by
    have hn := h.1
    have e := (fN_is h (show v < cnt E by omega)).2
    rw [kinR_s, tI_s, if_neg (m1_ne (by omega)), par_is h (by omega), kinR_is h hj k _ (by omega)]
    show _ = tI (if anZ E (v + 1) 10 (j + 1) = true then v + 1 else knZ E (j + 1) k (fN E v))
    by_cases z : anZ E (v + 1) 10 (j + 1) = true
    · rw [if_pos ((an_bit h hj (by omega)).mpr z), if_pos z, tI_s]
    · rw [if_neg (fun y => z ((an_bit h hj (by omega)).mp y)), if_neg z]
theorem kin_is {E : ES} (h : tre E) {i j : Nat} (hi : i < cnt E) (hj : j < cnt E) : kinE E (nI i) (nI j) = tI (kn E (i + 1) (j + 1)) := by
  unfold kinE
  rw [← tI_s i, kinR_is h hj 10 _ (by omega)]; rfl
theorem an_le {E : ES} (h : tre E) (w : Nat) : ∀ v, v ≤ cnt E → an E v w = true → 1 ≤ w ∧ w ≤ v := by
  have key : ∀ n v, v ≤ n → v ≤ cnt E → an E v w = true → 1 ≤ w ∧ w ≤ v := by
    intro n
    induction n with
    | zero => intro v hv _ q; rw [show v = 0 by omega] at q; cases q
    | succ n ih =>
      intro v hv hc q
      cases v with
      | zero => cases q
      | succ v =>
        have e := (fN_is h (show v < cnt E by omega)).2
        rw [an_s h (by omega), Bool.or_eq_true, decide_eq_true_eq] at q
        rcases q with q | q
        · omega
        · have := ih _ (by omega) (by omega) q
          omega
  exact fun v hv => key v v (Nat.le_refl v) hv
theorem an_self {E : ES} (h : tre E) {v : Nat} (hv : v < cnt E) : an E (v + 1) (v + 1) = true := by
  rw [an_s h hv, decide_eq_true rfl]; rfl
theorem an_tr {E : ES} (h : tre E) {w u : Nat} (hw : w ≤ cnt E) (hu : an E w u = true) : ∀ v, v ≤ cnt E → an E v w = true → an E v u = true := by
  have key : ∀ n v, v ≤ n → v ≤ cnt E → an E v w = true → an E v u = true := by
    intro n
    induction n with
    | zero => intro v hv _ q; rw [show v = 0 by omega] at q; cases q
    | succ n ih =>
      intro v hv hc q
      cases v with
      | zero => cases q
      | succ v =>
        have e := (fN_is h (show v < cnt E by omega)).2
        have q2 := q
        rw [an_s h (by omega), Bool.or_eq_true, decide_eq_true_eq] at q
        rcases q with q | q
        · rw [q]; exact hu
        · rw [an_s h (by omega), Bool.or_eq_true]
          exact Or.inr (ih _ (by omega) (by omega) q)
  exact fun v hv => key v v (Nat.le_refl v) hv
theorem an_par {E : ES} (h : tre E) {x : Nat} (hx : x < cnt E) (h0 : 0 < fN E x) : an E (x + 1) (fN E x) = true := by
  have e := (fN_is h hx).2
  rw [an_s h hx, Bool.or_eq_true]
  refine Or.inr ?_
  have := an_self h (v := fN E x - 1) (by omega)
  rw [show fN E x - 1 + 1 = fN E x by omega] at this
  exact this
/-- KIN: the nearest of those that both lines have -/
theorem kn_spec {E : ES} (h : tre E) (u : Nat) (hu : u ≤ cnt E) : ∀ v, v ≤ cnt E → (kn E v u = 0 ∧ ∀ w, an E v w = true → ¬ an E u w = true) ∨ (an E v (kn E v u) = true ∧ an E u (kn E v u) = true ∧ ∀ w, an E v w = true → an E u w = true → w ≤ kn E v u) := by
  have key : ∀ n v, v ≤ n → v ≤ cnt E → (kn E v u = 0 ∧ ∀ w, an E v w = true → ¬ an E u w = true) ∨ (an E v (kn E v u) = true ∧ an E u (kn E v u) = true ∧ ∀ w, an E v w = true → an E u w = true → w ≤ kn E v u) := by
    intro n
    induction n with
    | zero => intro v hv _; rw [show v = 0 by omega]; exact Or.inl ⟨rfl, fun w q => by cases q⟩
    | succ n ih =>
      intro v hv hc
      cases v with
      | zero => exact Or.inl ⟨rfl, fun w q => by cases q⟩
      | succ v =>
        have e := (fN_is h (show v < cnt E by omega)).2
        have hle := an_le h
        rw [kn_s h (by omega)]
        by_cases z : an E u (v + 1) = true
        · rw [if_pos z]
          exact Or.inr ⟨an_self h (by omega), z, fun w q _ => (hle w (v + 1) (by omega) q).2⟩
        · rw [if_neg z]
          have hw : ∀ w, an E (v + 1) w = true → an E u w = true → an E (fN E v) w = true := by
            intro w q1 q2
            rw [an_s h (by omega), Bool.or_eq_true, decide_eq_true_eq] at q1
            rcases q1 with q1 | q1
            · rw [← q1] at q2; exact absurd q2 z
            · exact q1
          rcases ih (fN E v) (by omega) (by omega) with ⟨a1, a2⟩ | ⟨a1, a2, a3⟩
          · exact Or.inl ⟨a1, fun w q1 q2 => a2 w (hw w q1 q2) q2⟩
          · exact Or.inr ⟨by rw [an_s h (by omega), Bool.or_eq_true]; exact Or.inr a1, a2, fun w q1 q2 => a3 w (hw w q1 q2) q2⟩
  exact fun v hv => key v v (Nat.le_refl v) hv
theorem kn_sym {E : ES} (h : tre E) {v u : Nat} (hv : v ≤ cnt E) (hu : u ≤ cnt E) : kn E v u = kn E u v := by
  rcases kn_spec h u hu v hv with ⟨a1, a2⟩ | ⟨a1, a2, a3⟩
  · rcases kn_spec h v hv u hu with ⟨b1, b2⟩ | ⟨b1, b2, b3⟩
    · rw [a1, b1]
    · exact absurd b1 (a2 _ b2)
  · rcases kn_spec h v hv u hu with ⟨b1, b2⟩ | ⟨b1, b2, b3⟩
    · exact absurd a1 (b2 _ a2)
    · have := a3 _ b2 b1
      have := b3 _ a2 a1
      omega
theorem kn_self {E : ES} (h : tre E) {x : Nat} (hx : x < cnt E) : kn E (x + 1) (x + 1) = x + 1 := by
  rw [kn_s h hx, if_pos (an_self h hx)]
theorem kn_par {E : ES} (h : tre E) {x : Nat} (hx : x < cnt E) (h0 : 0 < fN E x) : kn E (x + 1) (fN E x) = fN E x := by
  have e := (fN_is h hx).2
  have l := an_le h (x + 1) (fN E x) (by omega)
  rw [kn_s h hx, if_neg (fun z => by have := l z; omega)]
  have := kn_self h (x := fN E x - 1) (by omega)
  rw [show fN E x - 1 + 1 = fN E x by omega] at this
  exact this
