variable {nn : Nat}
/-! ===== years go; what a row keeps ===== -/
theorem yr_come {w : Int32} {i : Nat} {E : ES} (h : eS E 1 = w) : eS (comeS i E) 1 = w := by
  unfold comeS
  split
  · rw [eS_sS, if_neg (by omega), eS_sF, eS_sF]; exact h
  · exact h
theorem yr_drink {w : Int32} {i : Nat} {p : ES × Int32} (h : eS p.1 1 = w) : eS (drinkS i p).1 1 = w := by
  by_cases q : eF p.1 i 6 = 1
  · rw [drinkS_y q]; exact h
  · rw [drinkS_n q]; exact h
theorem yr_die {w : Int32} {i : Nat} {E : ES} (h : eS E 1 = w) : eS (dieS i E) 1 = w := by
  by_cases q : eF E i 6 = 1 ∧ 70 ≤ eS E 1 - eF E i 3
  · rw [die_y q]
    unfold beqE
    rw [eS_sS, if_neg (by omega), eS_sF, (giveN_f _ _ _ _).1, eS_sF]
    exact h
  · rw [die_n q]; exact h
theorem yr_pass (E : ES) : eS (passE E).1 1 = if eS E 1 < 999 then eS E 1 + 1 else eS E 1 := by
  have a1 : eS (comeE E) 1 = eS E 1 := forN_ind (P := fun F : ES => eS F 1 = eS E 1) rfl (fun i s hs => yr_come hs) _
  have a2 : eS (drinkE (comeE E)).1 1 = eS E 1 := forN_ind (P := fun p : ES × Int32 => eS p.1 1 = eS E 1) a1 (fun i s hs => yr_drink hs) _
  have a3 : eS (dieE (drinkE (comeE E)).1) 1 = eS E 1 := forN_ind (P := fun F : ES => eS F 1 = eS E 1) a2 (fun i s hs => yr_die hs) _
  rw [passE_1]
  generalize dieE (drinkE (comeE E)).1 = C at *
  unfold tickE
  rw [a3]
  by_cases q : eS E 1 < 999
  · rw [if_pos q, if_pos q, eS_sS, if_pos rfl]
  · rw [if_neg q, if_neg q, a3]
theorem yr_spec {E : ES} {w : Nat} (hw : w < 1000) (h : eS E 1 = nI w) : ∀ n, n ≤ 100 → eS (passN n E) 1 = nI (if w + n < 999 then w + n else 999)
  | 0, _ => by
    show eS E 1 = _
    rw [h]
    by_cases q : w + 0 < 999
    · rw [if_pos q]; rfl
    · rw [if_neg q, show w = 999 by omega]
  | n + 1, hn => by
    rw [passN_n, yr_pass, yr_spec hw h n (by omega)]
    have e : (999 : Int32) = nI 999 := rfl
    by_cases q : w + n < 999
    · rw [if_pos q, if_pos (by rw [e, nI_ltx (by omega) (by omega)]; exact q), nI_1]
      by_cases q2 : w + (n + 1) < 999
      · rw [if_pos q2]; rfl
      · rw [if_neg q2, show w + n + 1 = 999 by omega]
    · rw [if_neg q, if_neg (by rw [e, nI_ltx (by omega) (by omega)]; omega), if_neg (by omega)]
theorem yr_min {E : ES} {w n : Nat} (hw : w < 1000) (h : eS E 1 = nI w) (hn : n ≤ 100) : eS (passN n E) 1 = if nI w + nI n < 999 then nI w + nI n else 999 := by
  have e : (999 : Int32) = nI 999 := rfl
  rw [yr_spec hw h n hn, nI_add, e]
  by_cases q : w + n < 999
  · rw [if_pos q, if_pos (by rw [nI_ltx (by omega) (by omega)]; exact q)]
  · rw [if_neg q, if_neg (by rw [nI_ltx (by omega) (by omega)]; exact q)]
theorem kp_1 {x : Int32} (h0 : 0 ≤ x.toInt) (h1 : x.toInt ≤ 9999) : keptE 1 x.toInt64 = x.toInt64 := by
  unfold keptE
  rw [if_neg (by decide), if_pos rfl, Int32.toInt32_toInt64]
  congr 1
  apply Int32.toInt_inj.mp
  rw [Int16.toInt_toInt32, Int32.toInt_toInt16]
  exact Int.bmod_eq_of_le (by omega) (by omega)
theorem kp_2 (x : Int32) : keptE 2 x.toInt64 = x.toInt64 := by
  unfold keptE
  rw [if_neg (by decide), if_neg (by decide), if_pos rfl, Int32.toInt32_toInt64]
theorem kp_m : keptE 1 (-1) = -1 := by decide
/-- rows 0 and 1, filled till i -/
def RW (E : ES) (go i : Nat) (G : GV) : Prop := (vH G 0 = 1 ∧ vZ G 0 = nI go) ∧ (vH G 1 = 2 ∧ vZ G 1 = nI go) ∧ (∀ t, t < i → vV G 0 t = (eS (passN (t + 1) (supE E)) 0).toInt64) ∧ (0 < cnt E → ∀ t, t < i → vV G 1 t = (eF (passN (t + 1) (supE E)) 0 4).toInt64)
theorem rw_row {E : ES} {G : GV} {go : Nat} : RW E go 0 (rowE (rowE G 0 1 (nI go)) 1 2 (nI go)) :=
  ⟨⟨(on1_n (H := on1 (vH G) 0 1) (t := 1) (v := 2) (by omega)).trans (on1_y _ _ _), (on1_n (H := on1 (vZ G) 0 (nI go)) (t := 1) (v := nI go) (by omega)).trans (on1_y _ _ _)⟩, ⟨on1_y (on1 (vH G) 0 1) 1 2, on1_y (on1 (vZ G) 0 (nI go)) 1 (nI go)⟩, fun t ht => absurd ht (Nat.not_lt_zero t), fun _ t ht => absurd ht (Nat.not_lt_zero t)⟩
theorem r_row {G : GV} {s a n : Nat} (hs : s < 8) (ha : a < 5) (hn : n ≤ 40) : g_row G (nI s) (nI a) (nI n) = (1, rowE G s (nI a) (nI n)) := by
  unfold g_row
  rw [if_pos ⟨is7 hs, inN (b := 4) (by omega) (by omega), inN (b := 40) (by omega) hn⟩, ix_m (j := s) (by omega)]
theorem rowR_ok {H : Int32} {a b : Nat} (hH : H = 1 ∨ H = 2) (ha : a < 2147483648) (h : b ≤ a) : rowR H (nI a) (nI b) = 0 := by
  unfold rowR
  have e : ¬ nI a < nI b := by rw [nI_ltx ha (by omega)]; omega
  rcases hH with rfl | rfl
  · rw [if_neg (by decide), if_neg (by decide), if_neg e]
  · rw [if_neg (by decide), if_neg (by decide), if_neg e]
theorem r_set {G : GV} {s i go : Nat} {v : Int64} (hs : s < 8) (hH : vH G s = 1 ∨ vH G s = 2) (hZ : vZ G s = nI go) (hgo : go < 2147483648) (hi : i < go) : g_set G (nI s) (nI i) v = (1, setV G s i v) := by
  have e1 : go = (go - 1) + 1 := by omega
  have e2 : inI (nI i) (nI go - 1) := by
    rw [e1, nI_pred]
    exact inN (b := go - 1) (by omega) (by omega)
  unfold g_set
  rw [if_pos (is7 hs), ix_m (j := s) (by omega), hZ, if_pos (show rowR (vH G s) (vZ G s) 0 = 0 by rw [hZ]; exact rowR_ok (b := 0) hH hgo (by omega)), if_pos e2, ix_m (j := i) (by omega)]
theorem rw_set0 {E : ES} {G : GV} {go i : Nat} {v : Int64} (h : RW E go i G) (hv : keptE 1 v = (eS (passN (i + 1) (supE E)) 0).toInt64) : (vH (setV G 0 i v) 0 = 1 ∧ vZ (setV G 0 i v) 0 = nI go) ∧ (vH (setV G 0 i v) 1 = 2 ∧ vZ (setV G 0 i v) 1 = nI go) ∧ (∀ t, t < i + 1 → vV (setV G 0 i v) 0 t = (eS (passN (t + 1) (supE E)) 0).toInt64) ∧ (0 < cnt E → ∀ t, t < i → vV (setV G 0 i v) 1 t = (eF (passN (t + 1) (supE E)) 0 4).toInt64) := by
  obtain ⟨h1, h2, h3, h4⟩ := h
  refine ⟨h1, h2, fun t ht => ?_, fun h0 t ht => ?_⟩
  · show (if (0 : Nat) = 0 then (if t = i then keptE (vH G 0) v else vV G 0 t) else vV G 0 t) = _
    rw [if_pos rfl]
    by_cases z : t = i
    · rw [if_pos z, h1.1, hv, z]
    · rw [if_neg z]; exact h3 t (by omega)
  · show (if (1 : Nat) = 0 then (if t = i then keptE (vH G 0) v else vV G 0 t) else vV G 1 t) = _
    rw [if_neg (by omega)]
    exact h4 h0 t ht
theorem rw_set1 {E : ES} {G : GV} {go i : Nat} {v : Int64} (h : (vH G 0 = 1 ∧ vZ G 0 = nI go) ∧ (vH G 1 = 2 ∧ vZ G 1 = nI go) ∧ (∀ t, t < i + 1 → vV G 0 t = (eS (passN (t + 1) (supE E)) 0).toInt64) ∧ (0 < cnt E → ∀ t, t < i → vV G 1 t = (eF (passN (t + 1) (supE E)) 0 4).toInt64)) (hv : keptE 2 v = (eF (passN (i + 1) (supE E)) 0 4).toInt64) : RW E go (i + 1) (setV G 1 i v) := by
  obtain ⟨h1, h2, h3, h4⟩ := h
  refine ⟨h1, h2, fun t ht => ?_, fun h0 t ht => ?_⟩
  · show (if (0 : Nat) = 1 then (if t = i then keptE (vH G 1) v else vV G 1 t) else vV G 0 t) = _
    rw [if_neg (by omega)]
    exact h3 t ht
  · show (if (1 : Nat) = 1 then (if t = i then keptE (vH G 1) v else vV G 1 t) else vV G 1 t) = _
    rw [if_pos rfl]
    by_cases z : t = i
    · rw [if_pos z, h2.1, hv, z]
    · rw [if_neg z]; exact h4 h0 t (by omega)
theorem r_judge {G : GV} {E : ES} {go : Nat} (hE : vE G = E) (hH : vH G 0 = 1) (hZ : vZ G 0 = nI go) (hgo : go ≤ 40) : g_judge G 0 (nI go) = (judgeR (vV G 0) go 0 (supE E), G) := by
  unfold g_judge
  rw [if_pos ⟨is7 (j := 0) (by omega), inN (b := 40) (by omega) hgo⟩, show ix 0 = 0 from rfl, if_pos (show rowR (vH G 0) (vZ G 0) (nI go) = 0 by rw [hH, hZ]; exact rowR_ok (Or.inl rfl) (by omega) (Nat.le_refl _)), ix_m (j := go) (by omega), hE]
theorem r_fits {G : GV} {E : ES} {go w : Nat} (hE : vE G = E) (hn : cnt E ≤ 10) (h0 : 0 < cnt E) (hH : vH G 1 = 2) (hZ : vZ G 1 = nI go) (h1 : 1 ≤ go) (hgo : go ≤ 40) (hw : w < 2) : g_fits G 1 (nI go) 0 (nI w) = (if w = 0 then fitsN E (vV G 1) 1 0 go 6 else fitsN E (vV G 1) 2 0 go 10, G) := by
  unfold g_fits
  have e0 : isH G 0 := isH_n (i := 0) (by rw [hE]; exact hn) (by rw [hE]; exact h0)
  rw [if_pos ⟨is7 (j := 1) (by omega), ⟨nI_le (a := 1) h1 (by omega), nI_le (b := 40) hgo (by omega)⟩, e0, inN (b := 1) (by omega) (by omega)⟩, show ix 1 = 1 from rfl, if_pos (show rowR (vH G 1) (vZ G 1) (nI go) = 0 by rw [hH, hZ]; exact rowR_ok (Or.inr rfl) (by omega) (Nat.le_refl _)), ix_m (j := go) (by omega), show ix 0 = 0 from rfl]
  unfold fitsE
  rw [hE]
  rcases (show w = 0 ∨ w = 1 by omega) with rfl | rfl
  · rw [if_pos rfl, if_pos (show nI 0 = 0 from rfl)]
  · rw [if_neg (show ¬ (1 : Nat) = 0 by decide), if_neg (show ¬ nI 1 = 0 by decide)]
