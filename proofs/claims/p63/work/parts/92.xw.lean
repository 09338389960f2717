variable {nn : Nat}
/-! ===== the law: six objects that are asked once ===== -/
theorem ok_G0 : okG G0 := ⟨660, by omega, inv_G0⟩
theorem c0_G0 : cnt (vE G0) = 0 := cnt_G0
theorem s0_G0 : eS (vE G0) 0 = 660 := (est_s (by omega)).trans (g0_s 0 (by omega))
theorem pass_0 {E : ES} (h : cnt E = 0) : eS (passE E).1 0 = eS E 0 ∧ cnt (passE E).1 = 0 := by
  refine ⟨?_, (sameE_cnt (same_passE E)).trans h⟩
  have e1 : comeE E = E := by unfold comeE; rw [h]; rfl
  have e2 : drinkE E = (E, 0) := by unfold drinkE; rw [h]; rfl
  have e3 : dieE E = E := by unfold dieE; rw [h]; rfl
  rw [passE_1, e1, e2, e3]
  unfold tickE
  split
  · rw [eS_sS, if_neg (by omega)]
  · rfl
theorem passN_0 {E : ES} (h : cnt E = 0) : ∀ n, eS (passN n E) 0 = eS E 0 ∧ cnt (passN n E) = 0
  | 0 => ⟨rfl, h⟩
  | n + 1 => by
    obtain ⟨h1, h2⟩ := passN_0 h n
    rw [passN_n]
    exact ⟨(pass_0 h2).1.trans h1, (pass_0 h2).2⟩
theorem come_id {E : ES} (h : ∀ i, i < cnt E → ¬ (eF E i 6 = 0 ∧ 21 ≤ eS E 1 - eF E i 3)) : ∀ n, n ≤ cnt E → forN n comeS E = E
  | 0, _ => rfl
  | n + 1, hn => by rw [comeS_s, come_id h n (by omega), come_n (h n (by omega))]
theorem drink_id {E : ES} (h : ∀ i, i < cnt E → ¬ eF E i 6 = 1) : ∀ n, n ≤ cnt E → forN n drinkS (E, 0) = (E, 0)
  | 0, _ => rfl
  | n + 1, hn => by rw [drinkS_s, drink_id h n (by omega), drinkS_n (h n (by omega))]
theorem pass_id {E : ES} (h : ∀ i, i < cnt E → eF E i 6 = 0 ∧ eS E 1 - eF E i 3 = 0) : (passE E).2 = 0 := by
  rw [passE_2]
  have e1 : comeE E = E := come_id (fun i hi z => by rw [(h i hi).2] at z; exact absurd z.2 (by decide)) _ (Nat.le_refl _)
  have e2 : drinkE E = (E, 0) := drink_id (fun i hi z => by rw [(h i hi).1] at z; exact absurd z (by decide)) _ (Nat.le_refl _)
  rw [e1, e2]
theorem drawn_0 {E : ES} (h : cnt E = 0) : (drawnN E 1).2 = 0 := by
  have key : (passE (bornE E)).2 = 0 := by
    refine pass_id (fun i hi => ?_)
    unfold bornE at *
    by_cases q : ¬ drawI (nextQ (eS E 3)) 4 = 0 ∨ ¬ cnt E < 10
    · rw [if_pos q, cnt_s3] at hi
      omega
    · rw [if_neg q, if_neg (by omega)] at hi ⊢
      have e0 : ∀ v, cnt (sS E 3 v) = 0 := fun v => by rw [cnt_s3]; exact h
      rw [cnt_addE _ _ _ _ _ (by rw [e0]; omega), e0] at hi
      have hi0 : i = 0 := by omega
      subst hi0
      refine ⟨?_, ?_⟩
      · show (if 0 = cnt (sS E 3 (nextQ (nextQ (nextQ (eS E 3))))) ∧ 6 < 7 then newF _ _ _ _ 6 else _) = _
        rw [e0, if_pos (by omega)]; rfl
      · have e3 : eF (addE (sS E 3 (nextQ (nextQ (nextQ (eS E 3))))) (drawI (nextQ (nextQ (eS E 3))) 6) (drawI (nextQ (nextQ (nextQ (eS E 3)))) 10) (eS E 1) (-1)) 0 3 = eS E 1 := by
          show (if 0 = cnt (sS E 3 (nextQ (nextQ (nextQ (eS E 3))))) ∧ 3 < 7 then newF _ _ _ _ 3 else _) = _
          rw [e0, if_pos (by omega)]; rfl
        rw [e3]
        exact Int32.sub_self _
  have e : (drawnN E 1).2 = 0 + (passE (bornE E)).2 := by
    rw [drawnN_s, drawnS_2]; rfl
  rw [e, key]; rfl
theorem kb_G0 : g_back G0 = noG G0 (-1005) := if_neg (fun z => absurd (show (0 : Int32) = 1 from z) (by decide))
theorem ki_G0 : g_image G0 = (1, uK G0 1 (vE G0)) := by unfold g_image; rfl
theorem ky_G0 : g_years G0 60 = (660, uE G0 (passN 60 (vE G0))) := by
  have h := u_years (G := G0) (n := 60) rfl (by omega) (by omega)
  rw [(passN_0 c0_G0 60).1, s0_G0] at h
  exact h
theorem kn_G0 : g_born G0 0 0 0 0 = noG G0 (-1002) := no_b2 (n := 0) c0_G0 (by omega)
theorem kq_G0 : g_born G0 5 9 999 (-1) = (0, uE G0 (addE (vE G0) (nI 5) (nI 9) (nI 999) (-1))) := by
  have h := r_born (G := G0) (k := 5) (a := 9) (y := 999) (f := -1) (by omega) (by omega) (by omega) (Or.inl rfl) (by rw [c0_G0]; omega)
  rw [c0_G0] at h
  exact h
theorem kd_G0 : g_drawn G0 1 = (0, uE G0 (drawnN (vE G0) 1).1) := by
  unfold g_drawn
  rw [if_pos ⟨by decide, by decide⟩, show ix 1 = 1 from rfl, drawn_0 c0_G0]
section NW
variable {n : Nat} {J : Nat → SpS → List Value → List Value → AH → Prop} {Rt : Option Value → SpS → AH → Prop} {cap : Nat × Nat} {A : Nat → List Item} {L : List Item} {lv : List Value}
theorem nw_obj {p1 p2 p3 i1 i2 : Nat} {S2 S3 : SpT} (hc : 64 ≤ cap.1 ∧ 928 ≤ cap.2) (k : goF (n + 1) J Rt cap A L (SHn 0) lv [.ref 0] HF) : goF (n + 1) J Rt cap A ((p1, .new i1, [5], S2) :: (p2, .dup, [], S3) :: (p3, .invokespecial i2, [0, 63, 920], S_X5_init) :: L) Se lv [] zH := by
  rw [ec_new, ev_dup_ref, ec_callI]
  refine ⟨⟨by show 0 + 1 ≤ 100000; omega, by show 0 + 1 ≤ cap.1; omega, by show 0 + 8 ≤ cap.2; omega⟩, ?_, by show 1 ≤ 4; omega, Or.inr ⟨by show 0 + 1 + 63 ≤ cap.1; omega, by show 0 + 8 + 920 ≤ cap.2; omega⟩, ?_⟩
  · show (tC S1 0).1 ≠ 99
    rw [y_S1]; decide
  · show S_X5_init S1 [.ref 0] H1 _
    rw [e_X5_init, sl_e]
    exact ⟨rfl, rfl, rfl, k⟩
end NW
