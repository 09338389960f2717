variable {nn : Nat}
/-! ===== years drawn: no use is below nothing ===== -/
theorem dr_b {T : Nat} {E : ES} (hT : T ≤ 3000000) (hg : goodE T E) : ∀ n, n ≤ cnt E → 0 ≤ (forN n drinkS (E, 0)).2.toInt ∧ (forN n drinkS (E, 0)).2.toInt ≤ n * 3000000
  | 0, _ => by
    show 0 ≤ (0 : Int32).toInt ∧ (0 : Int32).toInt ≤ _
    rw [ti_0]; omega
  | n + 1, hn => by
    obtain ⟨i1, i2⟩ := dr_b hT hg n (by omega)
    obtain ⟨g1, g2⟩ := good_drinkN (T := T) (by omega) hg n (by omega)
    have h10 := hg.1.2.1
    rw [drinkS_s]
    generalize forN n drinkS (E, 0) = p at *
    by_cases q : eF p.1 n 6 = 1
    · rw [drinkS_y q]
      obtain ⟨⟨h1, h2⟩, h3, h4⟩ := bnd_iff.mp g1.2.2
      have hi : n < cnt p.1 := by omega
      have hh := bnd_h g1.2.2 (by omega) hi
      have u : 0 ≤ (useF p.1 n).toInt ∧ (useF p.1 n).toInt ≤ (eF p.1 n 4).toInt := use_b (h3 n hi).1 hh.1 (by omega)
      show 0 ≤ (p.2 + useF p.1 n).toInt ∧ (p.2 + useF p.1 n).toInt ≤ _
      rw [ti_add (by omega) (by omega)]
      omega
    · rw [drinkS_n q]; omega
theorem pass_b {T : Nat} {E : ES} (hT : T ≤ 3000000) (hg : goodE T E) : 0 ≤ (passE E).2.toInt ∧ (passE E).2.toInt ≤ 30000000 := by
  rw [passE_2]
  obtain ⟨g1, g2⟩ := good_comeN (T := T) (by omega) hg (cnt E) (Nat.le_refl _)
  have h := dr_b hT g1 (cnt (forN (cnt E) comeS E)) (Nat.le_refl _)
  have h10 := g1.1.2.1
  have e : drinkE (comeE E) = forN (cnt (forN (cnt E) comeS E)) drinkS (forN (cnt E) comeS E, 0) := rfl
  rw [e]
  omega
theorem drawn_b {T : Nat} {E : ES} (hT : T ≤ 3000000) (hg : goodE T E) : ∀ n, n ≤ 10 → 0 ≤ (drawnN E n).2.toInt ∧ (drawnN E n).2.toInt ≤ n * 30000000
  | 0, _ => by
    show 0 ≤ (0 : Int32).toInt ∧ (0 : Int32).toInt ≤ _
    rw [ti_0]; omega
  | n + 1, hn => by
    obtain ⟨i1, i2⟩ := drawn_b hT hg n (by omega)
    obtain ⟨g1, -⟩ := good_born (good_drawn (T := T) (by omega) hg n).1
    obtain ⟨p1, p2⟩ := pass_b hT g1
    rw [drawnN_s, drawnS_2, ti_add (by omega) (by omega)]
    omega
theorem born_y (E : ES) : eS (bornE E) 1 = eS E 1 := by
  unfold bornE
  split
  · rw [eS_sS, if_neg (by omega)]
  · split <;> rfl
theorem drawn_y {E : ES} (h : 0 ≤ (eS E 1).toInt) : ∀ n, 0 ≤ (eS (drawnN E n).1 1).toInt
  | 0 => h
  | n + 1 => by
    have ih := drawn_y h n
    rw [drawnN_s, drawnS_1, yr_pass, born_y]
    by_cases q : eS (drawnN E n).1 1 < 999
    · rw [if_pos q]
      rw [lt_ti, show (999 : Int32).toInt = 999 by decide] at q
      rw [ti_add (by rw [show (1 : Int32).toInt = 1 by decide]; omega) (by rw [show (1 : Int32).toInt = 1 by decide]; omega), show (1 : Int32).toInt = 1 by decide]
      omega
    · rw [if_neg q]; exact ih
theorem LU_le {E : ES} {B : Nat → Int32} {T T' : Nat} {h : AH} {G : GV} (hU : LU E B T h G) (hT : T ≤ T') : LU E B T' h G := ⟨hU.1, inv_le hU.2.1 hT, hU.2.2⟩
theorem born_j (E : ES) (t : Nat) : eJ (bornE E) t = eJ E t := by
  unfold bornE
  split
  · rfl
  · split <;> rfl
theorem r_show {G : GV} {s i : Nat} (hs : s < 8) (hn : cnt (vE G) ≤ 10) (hi : i < cnt (vE G)) : g_show G (nI s) (nI i) = (1, showE G s (nI i)) := by
  unfold g_show
  rw [if_pos ⟨is7 hs, Or.inr (isH_n hn hi)⟩, ix_m (j := s) (by omega)]
theorem k_show {E : ES} {G : GV} {t : Nat} {i : Int32} (h : vE G = E ∧ vK G = 1 ∧ vKE G = E) : vE (showE G t i) = E ∧ vK (showE G t i) = 1 ∧ vKE (showE G t i) = E := by
  unfold showE uSh
  unfold vE vK vKE at *
  exact h
theorem k_show2 {E : ES} {G : GV} {t : Nat} {i : Int32} (h : vK G = 1 ∧ vKE G = E) : vK (showE G t i) = 1 ∧ vKE (showE G t i) = E := by
  unfold showE uSh
  unfold vK vKE at *
  exact h
theorem e_show {E : ES} {G : GV} {t : Nat} {i : Int32} (h : vE G = E) : vE (showE G t i) = E := by
  unfold showE uSh
  unfold vE at *
  exact h
theorem h_show {G : GV} {t i : Nat} (hi : i < 11) : vH (showE G t (nI i)) t = nI (10 + i) := by
  show (if t = t then (if nI i = -1 then -1 else 10 + nI i) else vH G t) = _
  have e : ¬ nI i = -1 := fun z => absurd (show nI i < 0 by rw [z]; decide) (nI_pos (by omega))
  rw [if_pos rfl, if_neg e]
  exact nI_add 10 i
theorem h_show2 {G : GV} {t u : Nat} {i : Int32} (h : u ≠ t) : vH (showE G t i) u = vH G u := if_neg h
theorem h_uE {E : ES} {G : GV} (u : Nat) : vH (uE G E) u = vH G u := by
  unfold uE vH
  rfl
theorem uu_born {G : GV} {E : ES} (hE : vE G = E) (hn : cnt E < 10) : g_born G 4 4 44 (-1) = (nI (cnt E), uE G (addE E 4 4 44 (-1))) := by
  subst hE
  exact r_born (k := 4) (a := 4) (y := 44) (f := -1) (by omega) (by omega) (by omega) (Or.inl rfl) hn
theorem u_holds {G : GV} {s : Nat} (hs : s < 8) : g_holds G (nI s) = (vH G s, G) := by
  unfold g_holds
  rw [if_pos (is7 hs), ix_m (j := s) (by omega)]
theorem u_drawn {G : GV} {E : ES} (hE : vE G = E) : g_drawn G 5 = ((drawnN E 5).2, uE G (drawnN E 5).1) := by
  unfold g_drawn
  rw [if_pos ⟨by decide, by decide⟩, hE]
  rfl
theorem u_tell0 {G : GV} {E : ES} (hE : vE G = E) : g_tell G 0 9999 = (eS E 0, uE G (sS E 0 9999)) := by rw [r_tell0 ⟨by decide, by decide⟩, hE]
theorem u_tell1 {G : GV} {E : ES} (hE : vE G = E) : g_tell G 1 999 = (eS E 1, uE G (sS E 1 999)) := by rw [r_tell1 ⟨by decide, by decide⟩, hE]
theorem u_joy {G : GV} {E : ES} {t : Nat} {v : Int32} (hE : vE G = E) (ht : t < 8) (h : inI v 9) : g_joy G (nI t) v = (eJ E t, uE G (sJ E t v)) := by rw [r_joy ht h, hE]
theorem u_seed {G : GV} {E : ES} {v : Int32} (hE : vE G = E) : g_seed G v = (eS E 3, uE G (sS E 3 v)) := by rw [r_seed, hE]
