variable {nn : Nat}
/-! ===== where the law begins: an object as it is made ===== -/
def Gd (S : SpS) : Prop := (∀ c, nC S ≤ c → tC S c = (99, 0)) ∧ ∀ c k, (nC S ≤ c ∨ 26 ≤ k) → rC S c k = 0
theorem Gd_nw {S : SpS} (h : Gd S) (a b n : Nat) : Gd (nwS S a b n) := by
  refine ⟨fun c hc => ?_, fun c k hc => ?_⟩
  · rw [w_nw] at hc
    rw [y_nw, if_neg (by omega)]; exact h.1 c (by omega)
  · rw [w_nw] at hc
    rw [q_nw]
    by_cases z : c = nC S
    · rw [if_pos z]
    · rw [if_neg z]; exact h.2 c k (by omega)
theorem Gd_pR {S : SpS} (h : Gd S) {a k : Nat} (ha : a < nC S) (hk : k < 26) (r : Nat) : Gd (pR S a k r) := by
  refine ⟨fun c hc => h.1 c hc, fun c j hc => ?_⟩
  rw [w_pR] at hc
  rw [q_pR, if_neg (by omega)]; exact h.2 c j hc
theorem Gd_e : Gd Se := ⟨fun _ _ => rfl, fun _ _ _ => rfl⟩
theorem Gd_hl {S : SpS} (h : Gd S) {a : Nat} (ha : a < nC S) : ∀ n, n ≤ 26 → Gd (hlS a n S)
  | 0, _ => h
  | n + 1, hn => by
    rw [hlS_s]
    exact Gd_pR (Gd_nw (Gd_hl h ha n (by omega)) 1 0 7) (by rw [w_nw, w_hl]; omega) (by omega) _
theorem Gd_es {S : SpS} (h : Gd S) {x : Nat} (hx : x < nC S) : Gd (esS S x) := by
  unfold esS
  refine Gd_hl ?_ (by show nC S + 1 < nC S + 2; omega) 10 (by omega)
  unfold e1S
  exact Gd_pR (Gd_nw (Gd_pR (Gd_nw h _ _ _) (by rw [w_nw]; omega) (by omega) _) _ _ _) (by rw [w_nw, w_pR, w_nw]; omega) (by omega) _
theorem Gd_ta {S : SpS} (h : Gd S) {x : Nat} (hx : x < nC S) : Gd (taS S x) := by
  unfold taS
  exact Gd_pR (Gd_nw (Gd_pR (Gd_nw h _ _ _) (by rw [w_nw]; omega) (by omega) _) _ _ _) (by rw [w_nw, w_pR, w_nw]; omega) (by omega) _
theorem Gd_op {S : SpS} (h : Gd S) {x : Nat} (hx : x < nC S) : Gd (opS S x) := by
  unfold opS
  exact Gd_pR (Gd_nw (Gd_pR (Gd_nw h _ _ _) (by rw [w_nw]; omega) (by omega) _) _ _ _) (by rw [w_nw, w_pR, w_nw]; omega) (by omega) _
theorem Gd_a1 : Gd a1 := by unfold a1; exact Gd_pR (Gd_es (Gd_nw (Gd_nw Gd_e _ _ _) _ _ _) (by decide)) (by rw [w_es, w_nw]; omega) (by omega) _
theorem Gd_a2 : Gd a2 := by
  have := f_a1
  unfold a2; exact Gd_pR (Gd_es (Gd_nw Gd_a1 _ _ _) (by rw [w_nw]; omega)) (by rw [w_es, w_nw]; omega) (by omega) _
theorem Gd_a3 : Gd a3 := by
  have := f_a2
  unfold a3; exact Gd_pR (Gd_es (Gd_nw Gd_a2 _ _ _) (by rw [w_nw]; omega)) (by rw [w_es, w_nw]; omega) (by omega) _
theorem Gd_a4 : Gd a4 := by
  have := f_a3
  unfold a4; exact Gd_pR (Gd_ta (Gd_nw Gd_a3 _ _ _) (by rw [w_nw]; omega)) (by rw [w_ta, w_nw]; omega) (by omega) _
theorem Gd_a5 : Gd a5 := by
  have := f_a4
  unfold a5; exact Gd_pR (Gd_nw Gd_a4 _ _ _) (by rw [w_nw]; omega) (by omega) _
theorem Gd_a6 : Gd a6 := by
  have := f_a5
  unfold a6; exact Gd_pR (Gd_op (Gd_nw Gd_a5 _ _ _) (by rw [w_nw]; omega)) (by rw [w_op, w_nw]; omega) (by omega) _
theorem Gd_a7 : Gd a7 := by
  have := f_a6
  unfold a7; exact Gd_pR (Gd_nw Gd_a6 _ _ _) (by rw [w_nw]; omega) (by omega) _
theorem Gd_sl : ∀ n, n ≤ 26 → Gd (slS n)
  | 0, _ => Gd_a7
  | n + 1, hn => by
    have := w_sl n
    rw [slS_s]
    unfold shS
    exact Gd_pR (Gd_pR (Gd_nw (Gd_nw (Gd_sl n (by omega)) _ _ _) _ _ _) (by rw [w_nw, w_nw]; omega) (by omega) _) (by rw [w_pR, w_nw, w_nw]; omega) (by omega) _
theorem tS0_z {c : Nat} (h : 64 ≤ c) : tS0 0 c = (99, 0) := by
  unfold tS0
  repeat rw [if_neg (by omega)]
theorem rS0_z {c k : Nat} (h : 64 ≤ c ∨ 26 ≤ k) : rS0 c k = 0 := by
  unfold rS0 rX0
  grind (splits := 80)
theorem sl_t : ∀ c, c < 64 → tC (slS 8) c = tS0 0 c := by decide +kernel
theorem sl_r : ∀ c, c < 64 → ∀ k, k < 26 → rC (slS 8) c k = rS0 c k := by decide +kernel
theorem sl_e : slS 8 = SHn 0 := by
  have g := Gd_sl 8 (by omega)
  have w := w_sl 8
  refine Prod.ext w (Prod.ext (c_sl 8) (Prod.ext (funext fun c => ?_) (funext fun c => funext fun k => ?_)))
  · show tC (slS 8) c = tS0 0 c
    by_cases q : c < 64
    · exact sl_t c q
    · rw [tS0_z (by omega), g.1 c (by rw [w]; omega)]
  · show rC (slS 8) c k = rS0 c k
    by_cases q : c < 64
    · by_cases q2 : k < 26
      · exact sl_r c q k q2
      · rw [rS0_z (by omega), g.2 c k (by omega)]
    · rw [rS0_z (by omega), g.2 c k (by rw [w]; omega)]
theorem sh_1 : nwS (SHn 0) 10 43 43 = SHn 1 := by
  refine Prod.ext rfl (Prod.ext rfl (Prod.ext (funext fun c => ?_) (funext fun c => funext fun k => ?_)))
  · show (if c = 64 then (10, 43) else tS0 0 c) = tS0 1 c
    by_cases q : c = 64
    · rw [if_pos q, q]; rfl
    · rw [if_neg q]
      unfold tS0
      simp [q]
  · show (if c = 64 then 0 else rS0 c k) = rS0 c k
    by_cases q : c = 64
    · rw [if_pos q, rS0_z (by omega)]
    · rw [if_neg q]
def HF : AH := slH 8
/-! the first state -/
def G0 : GV := (est HF 1, (0, est HF 1), (0, fun _ => 0), (fun _ => -1), (fun _ => 0), (fun _ _ => 0), fun _ => 0)
theorem g0_c : ∀ c, c < 48 → ∀ k, k < 8 → (c = 1 → gI HF c k = if k = 0 then 660 else if k = 3 then 1 else 0) ∧ (c = 2 → gI HF c k = nI k + 1) := by decide +kernel
theorem g0_x : gI HF 0 3 = 0 ∧ gI HF 40 1 = 0 ∧ (∀ s, s < 8 → gI HF (48 + 2 * s) 0 = -1) ∧ ∀ k, k < 5 → gI HF 47 k = 0 := by decide +kernel
theorem g0_s : ∀ k, k < 5 → gI HF 1 k = if k = 0 then 660 else if k = 3 then 1 else 0 := fun k hk => (g0_c 1 (by omega) k (by omega)).1 rfl
theorem g0_j : ∀ k, k < 8 → gI HF 2 k = nI k + 1 := fun k hk => (g0_c 2 (by omega) k (by omega)).2 rfl
theorem cnt_G0 : cnt (est HF 1) = 0 := by
  rw [est_n, g0_s 4 (by omega)]
  decide
theorem no4 : ¬ inI (-1 : Int32) 4 := fun z => absurd z.1 (by decide)
theorem simX_0 : simX HF G0 := by
  obtain ⟨h1, h2, h3, h4⟩ := g0_x
  refine ⟨rfl, ⟨h1, fun z => absurd (show (0 : Int32) = 1 from z) (by decide)⟩, ⟨h2, fun i hi => absurd (show i < (0 : Int32).toNatClampNeg from hi) (by rw [show ((0 : Int32).toNatClampNeg) = 0 by decide]; omega)⟩, fun s hs => ⟨h3 s hs, fun z => absurd z no4⟩, fun k hk => h4 k hk⟩
theorem inv_G0 : inv 660 G0 := by
  have e0 : eS (est HF 1) 0 = 660 := (est_s (by omega)).trans (g0_s 0 (by omega))
  have e2 : eS (est HF 1) 2 = 0 := (est_s (by omega)).trans (g0_s 2 (by omega))
  have e4 : eS (est HF 1) 4 = 0 := (est_s (by omega)).trans (g0_s 4 (by omega))
  refine ⟨⟨⟨?_, ?_, Or.inl e2⟩, fun i hi => ?_, ⟨?_, ?_⟩, fun i hi => ?_, ?_⟩, Or.inl rfl, ⟨0, by omega, rfl⟩, fun s hs => Or.inl rfl⟩
  · show eS (est HF 1) 4 = nI (cnt (est HF 1))
    rw [e4, cnt_G0]; rfl
  · show cnt (est HF 1) ≤ 10
    rw [cnt_G0]; omega
  · replace hi : i < cnt (est HF 1) := hi
    rw [cnt_G0] at hi; exact absurd hi (Nat.not_lt_zero i)
  · show 0 ≤ eS (est HF 1) 0
    rw [e0]; decide
  · show eS (est HF 1) 0 ≤ 9999
    rw [e0]; decide
  · replace hi : i < cnt (est HF 1) := hi
    rw [cnt_G0] at hi; exact absurd hi (Nat.not_lt_zero i)
  · show (eS (est HF 1) 0).toInt + sumI (cnt (est HF 1)) (fun i => (eF (est HF 1) i 4).toInt) ≤ _
    rw [e0, cnt_G0]
    decide
