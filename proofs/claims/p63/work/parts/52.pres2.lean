variable {nn : Nat}
/-! ===== every call keeps a state in order ===== -/
theorem inv_le {T T' : Nat} {G : GV} (hI : inv T G) (h : T ≤ T') : inv T' G := by
  obtain ⟨h1, h2, h3, h4⟩ := hI
  refine ⟨good_le h1 h, ?_, h3, h4⟩
  rcases h2 with q | ⟨q, q2⟩
  · exact Or.inl q
  · exact Or.inr ⟨q, good_le q2 h⟩
theorem inv_q {T : Nat} {G : GV} (hI : inv T G) : inv (T + 250000) G := inv_le hI (by omega)
theorem inv_r {T : Nat} {G : GV} (hI : inv T G) (c : Int32) : inv (T + 250000) (gR G c) := inv_q hI
theorem inv_E {T T' : Nat} {G : GV} {E : ES} (hI : inv T G) (h : T ≤ T') (hE : goodE T' E) (hc : cnt (vE G) ≤ cnt E) : inv T' (uE G E) := by
  obtain ⟨h1, h2, h3, h4⟩ := inv_le hI h
  refine ⟨hE, h2, h3, fun s hs => ?_⟩
  rcases h4 s hs with q | q | ⟨j, hj, q⟩
  · exact Or.inl q
  · exact Or.inr (Or.inl q)
  · exact Or.inr (Or.inr ⟨j, Nat.lt_of_lt_of_le hj hc, q⟩)
theorem inv_S {T : Nat} {G : GV} {H Z : Nat → Int32} {V : Nat → Nat → Int64} (hI : inv T G) (h : ∀ s, s < 8 → (vH G s = H s ∧ vZ G s = Z s) ∨ goodS (uSh G H Z V) s) : inv T (uSh G H Z V) := by
  obtain ⟨h1, h2, h3, h4⟩ := hI
  refine ⟨h1, h2, h3, fun s hs => ?_⟩
  rcases h s hs with ⟨q1, q2⟩ | q
  · have := h4 s hs
    unfold goodS at *
    rw [q1, q2] at this
    exact this
  · exact q
theorem pr_part {T : Nat} {G : GV} (hI : inv T G) (i : Int32) : inv (T + 250000) (g_part G i).2 := by
  unfold g_part
  repeat' split
  all_goals first | exact inv_q hI | exact inv_r hI _
theorem pr_line {T : Nat} {G : GV} (hI : inv T G) (i : Int32) : inv (T + 250000) (g_line G i).2 := by
  unfold g_line
  repeat' split
  all_goals first | exact inv_q hI | exact inv_r hI _
theorem pr_kin {T : Nat} {G : GV} (hI : inv T G) (i j : Int32) : inv (T + 250000) (g_kin G i j).2 := by
  unfold g_kin
  repeat' split
  all_goals first | exact inv_q hI | exact inv_r hI _
theorem pr_under {T : Nat} {G : GV} (hI : inv T G) (i : Int32) : inv (T + 250000) (g_under G i).2 := by
  unfold g_under
  repeat' split
  all_goals first | exact inv_q hI | exact inv_r hI _
theorem pr_steps {T : Nat} {G : GV} (hI : inv T G) (i j : Int32) : inv (T + 250000) (g_steps G i j).2 := by
  unfold g_steps
  repeat' split
  all_goals first | exact inv_q hI | exact inv_r hI _
theorem pr_share {T : Nat} {G : GV} (hI : inv T G) (i j : Int32) : inv (T + 250000) (g_share G i j).2 := by
  unfold g_share
  repeat' split
  all_goals first | exact inv_q hI | exact inv_r hI _
theorem pr_heirOf {T : Nat} {G : GV} (hI : inv T G) (i j : Int32) : inv (T + 250000) (g_heirOf G i j).2 := by
  unfold g_heirOf
  repeat' split
  all_goals first | exact inv_q hI | exact inv_r hI _
theorem pr_joyOf {T : Nat} {G : GV} (hI : inv T G) (i : Int32) : inv (T + 250000) (g_joyOf G i).2 := by
  unfold g_joyOf
  repeat' split
  all_goals first | exact inv_q hI | exact inv_r hI _
theorem pr_uses {T : Nat} {G : GV} (hI : inv T G) (i j : Int32) : inv (T + 250000) (g_uses G i j).2 := by
  unfold g_uses
  repeat' split
  all_goals first | exact inv_q hI | exact inv_r hI _
theorem pr_gets {T : Nat} {G : GV} (hI : inv T G) (i : Int32) : inv (T + 250000) (g_gets G i).2 := by
  unfold g_gets
  repeat' split
  all_goals first | exact inv_q hI | exact inv_r hI _
theorem pr_who {T : Nat} {G : GV} (hI : inv T G) (i : Int32) : inv (T + 250000) (g_who G i).2 := by
  unfold g_who
  repeat' split
  all_goals first | exact inv_q hI | exact inv_r hI _
theorem pr_rich {T : Nat} {G : GV} (hI : inv T G) (i : Int32) : inv (T + 250000) (g_rich G i).2 := by
  unfold g_rich
  repeat' split
  all_goals first | exact inv_q hI | exact inv_r hI _
theorem pr_eldest {T : Nat} {G : GV} (hI : inv T G) (i : Int32) : inv (T + 250000) (g_eldest G i).2 := by
  unfold g_eldest
  repeat' split
  all_goals first | exact inv_q hI | exact inv_r hI _
theorem pr_ofKind {T : Nat} {G : GV} (hI : inv T G) (i : Int32) : inv (T + 250000) (g_ofKind G i).2 := by
  unfold g_ofKind
  repeat' split
  all_goals first | exact inv_q hI | exact inv_r hI _
theorem pr_leaves {T : Nat} {G : GV} (hI : inv T G) (i j : Int32) : inv (T + 250000) (g_leaves G i j).2 := by
  unfold g_leaves
  repeat' split
  all_goals first | exact inv_q hI | exact inv_r hI _
theorem pr_status {T : Nat} {G : GV} (hI : inv T G) (i : Int32) : inv (T + 250000) (g_status G i).2 := by
  unfold g_status
  repeat' split
  all_goals first | exact inv_q hI | exact inv_r hI _
theorem pr_holds {T : Nat} {G : GV} (hI : inv T G) (i : Int32) : inv (T + 250000) (g_holds G i).2 := by
  unfold g_holds
  repeat' split
  all_goals first | exact inv_q hI | exact inv_r hI _
theorem pr_says {T : Nat} {G : GV} (hI : inv T G) (i j : Int32) : inv (T + 250000) (g_says G i j).2 := by
  unfold g_says
  repeat' split
  all_goals first | exact inv_q hI | exact inv_r hI _
theorem pr_ahead {T : Nat} {G : GV} (hI : inv T G) (i j : Int32) : inv (T + 250000) (g_ahead G i j).2 := by
  unfold g_ahead
  repeat' split
  all_goals first | exact inv_q hI | exact inv_r hI _
theorem pr_later {T : Nat} {G : GV} (hI : inv T G) (i j k : Int32) : inv (T + 250000) (g_later G i j k).2 := by
  unfold g_later
  repeat' split
  all_goals first | exact inv_q hI | exact inv_r hI _
theorem pr_out {T : Nat} {G : GV} (hI : inv T G) : inv (T + 250000) (g_out G ).2 := by
  unfold g_out
  repeat' split
  all_goals first | exact inv_q hI | exact inv_r hI _
theorem pr_longest {T : Nat} {G : GV} (hI : inv T G) : inv (T + 250000) (g_longest G ).2 := by
  unfold g_longest
  repeat' split
  all_goals first | exact inv_q hI | exact inv_r hI _
theorem pr_better {T : Nat} {G : GV} (hI : inv T G) (i : Int32) : inv (T + 250000) (g_better G i).2 := by
  unfold g_better
  repeat' split
  all_goals first | exact inv_q hI | exact inv_r hI _
theorem pr_spared {T : Nat} {G : GV} (hI : inv T G) : inv (T + 250000) (g_spared G ).2 := by
  unfold g_spared
  repeat' split
  all_goals first | exact inv_q hI | exact inv_r hI _
theorem pr_happiest {T : Nat} {G : GV} (hI : inv T G) (i j : Int32) : inv (T + 250000) (g_happiest G i j).2 := by
  unfold g_happiest
  repeat' split
  all_goals first | exact inv_q hI | exact inv_r hI _
theorem pr_fair {T : Nat} {G : GV} (hI : inv T G) (i : Int32) : inv (T + 250000) (g_fair G i).2 := by
  unfold g_fair
  repeat' split
  all_goals first | exact inv_q hI | exact inv_r hI _
theorem pr_fairest {T : Nat} {G : GV} (hI : inv T G) (i : Int32) : inv (T + 250000) (g_fairest G i).2 := by
  unfold g_fairest
  repeat' split
  all_goals first | exact inv_q hI | exact inv_r hI _
theorem pr_merriest {T : Nat} {G : GV} (hI : inv T G) (i j : Int32) : inv (T + 250000) (g_merriest G i j).2 := by
  unfold g_merriest
  repeat' split
  all_goals first | exact inv_q hI | exact inv_r hI _
theorem pr_when {T : Nat} {G : GV} (hI : inv T G) (i j : Int32) : inv (T + 250000) (g_when G i j).2 := by
  unfold g_when
  repeat' split
  all_goals first | exact inv_q hI | exact inv_r hI _
theorem pr_needs {T : Nat} {G : GV} (hI : inv T G) (i : Int32) : inv (T + 250000) (g_needs G i).2 := by
  unfold g_needs
  repeat' split
  all_goals first | exact inv_q hI | exact inv_r hI _
theorem pr_most {T : Nat} {G : GV} (hI : inv T G) : inv (T + 250000) (g_most G ).2 := by
  unfold g_most
  repeat' split
  all_goals first | exact inv_q hI | exact inv_r hI _
theorem pr_feast {T : Nat} {G : GV} (hI : inv T G) (i j : Int32) : inv (T + 250000) (g_feast G i j).2 := by
  unfold g_feast
  repeat' split
  all_goals first | exact inv_q hI | exact inv_r hI _
theorem pr_dry {T : Nat} {G : GV} (hI : inv T G) (i : Int32) : inv (T + 250000) (g_dry G i).2 := by
  unfold g_dry
  repeat' split
  all_goals first | exact inv_q hI | exact inv_r hI _
theorem pr_fits {T : Nat} {G : GV} (hI : inv T G) (i j k m : Int32) : inv (T + 250000) (g_fits G i j k m).2 := by
  unfold g_fits
  repeat' split
  all_goals first | exact inv_q hI | exact inv_r hI _
theorem pr_judge {T : Nat} {G : GV} (hI : inv T G) (i j : Int32) : inv (T + 250000) (g_judge G i j).2 := by
  unfold g_judge
  repeat' split
  all_goals first | exact inv_q hI | exact inv_r hI _
theorem pr_was {T : Nat} {G : GV} (hI : inv T G) (i j k : Int32) : inv (T + 250000) (g_was G i j k).2 := by
  unfold g_was
  repeat' split
  all_goals first | exact inv_q hI | exact inv_r hI _
theorem pr_mayBe {T : Nat} {G : GV} (hI : inv T G) (i j k : Int32) : inv (T + 250000) (g_mayBe G i j k).2 := by
  unfold g_mayBe
  repeat' split
  all_goals first | exact inv_q hI | exact inv_r hI _
theorem pr_likely {T : Nat} {G : GV} (hI : inv T G) (i j k : Int32) : inv (T + 250000) (g_likely G i j k).2 := by
  unfold g_likely
  repeat' split
  all_goals first | exact inv_q hI | exact inv_r hI _
theorem pr_ask {T : Nat} {G : GV} (hI : inv T G) (i j : Int32) : inv (T + 250000) (g_ask G i j).2 := by
  unfold g_ask
  repeat' split
  all_goals first | exact inv_q hI | exact inv_r hI _
theorem pr_made {T : Nat} {G : GV} (hI : inv T G) (i : Int32) : inv (T + 250000) (g_made G i).2 := by
  unfold g_made
  repeat' split
  all_goals first | exact inv_q hI | exact inv_r hI _
theorem pr_best {T : Nat} {G : GV} (hI : inv T G) (i : Int32) : inv (T + 250000) (g_best G i).2 := by
  unfold g_best
  repeat' split
  all_goals first | exact inv_q hI | exact inv_r hI _
theorem pr_last {T : Nat} {G : GV} (hI : inv T G) (i j k : Int32) : inv (T + 250000) (g_last G i j k).2 := by
  unfold g_last
  repeat' split
  all_goals first | exact inv_q hI | exact inv_r hI _
theorem pr_odds {T : Nat} {G : GV} (hI : inv T G) (i j k : Int32) : inv (T + 250000) (g_odds G i j k).2 := by
  unfold g_odds
  repeat' split
  all_goals first | exact inv_q hI | exact inv_r hI _
/-- an estate in which only numbers that no bound speaks of have changed -/
theorem good_sS {T k : Nat} {E : ES} {v : Int32} (hg : goodE T E) (h0 : k = 1 ∨ k = 3 ∨ (k = 2 ∧ (v = 0 ∨ v = 1 ∨ v = 2))) : goodE T (sS E k v) := by
  obtain ⟨h1, h2, h3⟩ := hg
  have hc : cnt (sS E k v) = cnt E := cnt_sS _ _ _ (by omega)
  refine ⟨⟨?_, ?_, ?_⟩, ?_, bnd_sS h3 (by omega) (by omega)⟩
  · rw [hc, eS_sS, if_neg (by omega)]; exact h1.1
  · rw [hc]; exact h1.2.1
  · rw [eS_sS]
    split
    · rcases h0 with z | z | z
      · omega
      · omega
      · exact z.2
    · exact h1.2.2
  · unfold okT; rw [hc]; exact h2
theorem good_sJ {T t : Nat} {E : ES} {v : Int32} (hg : goodE T E) : goodE T (sJ E t v) := hg
theorem inv_0 {T : Nat} {E : ES} (hb : bndE T E) : 0 ≤ (eS E 0).toInt ∧ (eS E 0).toInt ≤ 9999 := (bnd_iff.mp hb).1
theorem good_sto {T : Nat} {E : ES} {v : Int32} (hg : goodE T E) (h0 : 0 ≤ v.toInt) (h1 : v.toInt ≤ 9999) : goodE (T + v.toInt.toNat) (sS E 0 v) := by
  obtain ⟨g1, g2, g3_⟩ := hg
  have i0 := inv_0 g3_
  have hc : cnt (sS E 0 v) = cnt E := cnt_sS _ _ _ (by omega)
  refine ⟨⟨?_, ?_, ?_⟩, ?_, bnd_sto (bnd_le g3_ (by omega)) h0 h1 ?_⟩
  · rw [hc, eS_sS, if_neg (by omega)]; exact g1.1
  · rw [hc]; exact g1.2.1
  · rw [eS_sS, if_neg (by omega)]; exact g1.2.2
  · unfold okT; rw [hc]; exact g2
  · rw [tot_sS0]
    have := g3_.2.2
    omega
theorem good_sF4 {T i : Nat} {E : ES} {v : Int32} (hg : goodE T E) (hi : i < cnt E) (h0 : 0 ≤ v.toInt) : goodE (T + v.toInt.toNat) (sF E i 4 v) := by
  obtain ⟨g1, g2, g3_⟩ := hg
  refine ⟨g1, ?_, bnd_has (bnd_le g3_ (by omega)) hi h0 ?_⟩
  · intro j hj
    rw [eF_sF, if_neg (by omega)]
    exact g2 j hj
  · rw [tot_sF4 hi]
    have := g3_.2.2
    have := ((bnd_iff.mp g3_).2.1 i hi).2
    omega
theorem good_addE {T : Nat} {E : ES} {k a y f : Int32} (hg : goodE T E) (hn : cnt E < 10) (ha : inI a 9) (hf : f = -1 ∨ ∃ j, j < cnt E ∧ f = nI j) : goodE T (addE E k a y f) := by
  obtain ⟨g1, g2, g3_⟩ := hg
  have hc := cnt_addE E k a y f hn
  have o : ∀ i j, i < cnt E → eF (addE E k a y f) i j = eF E i j := fun i j hi => if_neg (show ¬ (i = cnt E ∧ j < 7) by omega)
  have nw : ∀ j, j < 7 → eF (addE E k a y f) (cnt E) j = newF k a y f j := fun j hj => if_pos ⟨rfl, hj⟩
  refine ⟨ok_addE g1 hn, ?_, ?_⟩
  · intro i hi
    rw [hc] at hi
    by_cases z : i = cnt E
    · rw [z, nw 2 (by omega)]
      exact hf
    · rw [o i 2 (by omega)]
      exact g2 i (by omega)
  · have n1 : eF (addE E k a y f) (cnt E) 1 = a := nw 1 (by omega)
    have n4 : eF (addE E k a y f) (cnt E) 4 = 0 := nw 4 (by omega)
    refine ⟨g3_.1, fun i hi => ?_, ?_⟩
    · rw [hc] at hi
      by_cases z : i = cnt E
      · rw [z, n1, n4]
        exact ⟨ha, Int32.le_refl 0⟩
      · rw [o i 1 (by omega), o i 4 (by omega)]
        exact g3_.2.1 i (by omega)
    · have h5 := g3_.2.2
      unfold totE at *
      rw [hc, sumI_s, n4, ti_0, sumI_eq (g := fun i => (eF E i 4).toInt) (cnt E) (fun i hi => by rw [o i 4 hi])]
      show (eS E 0).toInt + _ ≤ _
      omega
theorem in_ti {v m : Int32} (h : inI v m) : 0 ≤ v.toInt ∧ v.toInt ≤ m.toInt := by
  obtain ⟨h1, h2⟩ := h
  rw [le_ti, ti_0] at h1
  rw [le_ti] at h2
  exact ⟨h1, h2⟩
theorem pr_row {T : Nat} {G : GV} (hI : inv T G) (s a n : Int32) : inv (T + 250000) (g_row G s a n).2 := by
  unfold g_row
  split
  · rename_i hh
    obtain ⟨t, ht, rfl⟩ := in7 hh.1
    refine inv_S (inv_q hI) (fun u hu => ?_)
    unfold on1
    by_cases z : u = ix (nI t)
    · refine Or.inr (Or.inr (Or.inl ?_))
      obtain ⟨m, hm, em⟩ := in_of (m := 40) (by omega) hh.2.2
      show inI (if u = ix (nI t) then a else _) 4 ∧ ∃ z, z ≤ 40 ∧ (if u = ix (nI t) then n else _) = nI z
      rw [if_pos z, if_pos z]
      exact ⟨hh.2.1, m, hm, em⟩
    · rw [if_neg z, if_neg z]; exact Or.inl ⟨rfl, rfl⟩
  · exact inv_r hI _
theorem pr_set {T : Nat} {G : GV} (hI : inv T G) (s i : Int32) (v : Int64) : inv (T + 250000) (g_set G s i v).2 := by
  unfold g_set
  repeat' split
  · exact inv_S (inv_q hI) (fun u hu => Or.inl ⟨rfl, rfl⟩)
  all_goals exact inv_r hI _
theorem pr_copy {T : Nat} {G : GV} (hI : inv T G) (p q i j n : Int32) : inv (T + 250000) (g_copy G p q i j n).2 := by
  unfold g_copy
  repeat' split
  all_goals first | exact inv_r hI _ | exact inv_S (inv_q hI) (fun u hu => Or.inl ⟨rfl, rfl⟩)
theorem pr_show {T : Nat} {G : GV} (hI : inv T G) (s i : Int32) : inv (T + 250000) (g_show G s i).2 := by
  unfold g_show
  split
  · rename_i hh
    refine inv_S (inv_q hI) (fun u hu => ?_)
    unfold on1
    by_cases z : u = ix s
    · by_cases y : i = -1
      · refine Or.inr (Or.inl ?_)
        show (if u = ix s then (if i = -1 then -1 else 10 + i) else _) = (-1 : Int32)
        rw [if_pos z, if_pos y]
      · obtain ⟨j, hj, ej⟩ := heir_of hI.1.1.2.1 (hh.2.resolve_left y)
        refine Or.inr (Or.inr (Or.inr ⟨j, hj, ?_⟩))
        show (if u = ix s then (if i = -1 then -1 else 10 + i) else _) = 10 + nI j
        rw [if_pos z, if_neg y, ej]
    · rw [if_neg z]; exact Or.inl ⟨rfl, rfl⟩
  · exact inv_r hI _
theorem le_012 {v : Int32} (h : inI v 2) : v = 0 ∨ v = 1 ∨ v = 2 := by
  obtain ⟨j, hj, e⟩ := in_of (m := 2) (by omega) h
  rcases (show j = 0 ∨ j = 1 ∨ j = 2 by omega) with rfl | rfl | rfl
  · exact Or.inl e
  · exact Or.inr (Or.inl e)
  · exact Or.inr (Or.inr e)
theorem pr_tell {T : Nat} {G : GV} (hI : inv T G) (w v : Int32) : inv (T + 250000) (g_tell G w v).2 := by
  have hg := hI.1
  unfold g_tell
  split
  · rename_i hh
    have h2 := in_ti hh.2
    rw [ti_9999] at h2
    exact inv_E hI (by omega) (good_le (good_sto hg h2.1 h2.2) (by omega)) (Nat.le_of_eq (cnt_sS _ _ _ (by omega)).symm)
  · split
    · exact inv_E hI (by omega) (good_le (good_sS hg (Or.inl rfl)) (by omega)) (Nat.le_of_eq (cnt_sS _ _ _ (by omega)).symm)
    · split
      · rename_i hh
        exact inv_E hI (by omega) (good_le (good_sS hg (Or.inr (Or.inr ⟨rfl, le_012 hh.2⟩))) (by omega)) (Nat.le_of_eq (cnt_sS _ _ _ (by omega)).symm)
      · exact inv_r hI _
theorem pr_joy {T : Nat} {G : GV} (hI : inv T G) (t v : Int32) : inv (T + 250000) (g_joy G t v).2 := by
  unfold g_joy
  split
  · exact inv_E hI (by omega) (good_le (good_sJ hI.1) (by omega)) (Nat.le_refl _)
  · exact inv_r hI _
theorem pr_seed {T : Nat} {G : GV} (hI : inv T G) (v : Int32) : inv (T + 250000) (g_seed G v).2 :=
  inv_E hI (by omega) (good_le (good_sS hI.1 (Or.inr (Or.inl rfl))) (by omega)) (Nat.le_of_eq (cnt_sS _ _ _ (by omega)).symm)
theorem pr_born {T : Nat} {G : GV} (hI : inv T G) (k a y f : Int32) : inv (T + 250000) (g_born G k a y f).2 := by
  unfold g_born
  split
  · rename_i hh
    split
    · rename_i h10
      refine inv_E hI (by omega) (good_le (good_addE hI.1 h10 hh.2.1 ?_) (by omega)) (by rw [cnt_addE _ _ _ _ _ h10]; omega)
      rcases hh.2.2.2 with z | z
      · exact Or.inl z
      · exact Or.inr (heir_of hI.1.1.2.1 z)
    · exact inv_r hI _
  · exact inv_r hI _
theorem pr_gives {T : Nat} {G : GV} (hI : inv T G) (hT : T ≤ 1000000000) (i j n : Int32) : inv (T + 250000) (g_gives G i j n).2 := by
  have hg := hI.1
  have hn := hg.1.2.1
  unfold g_gives
  split
  · rename_i hh
    split
    · exact inv_r hI _
    · rename_i h2
      obtain ⟨a, ha, rfl⟩ := heir_of hn hh.1
      obtain ⟨b, hb, rfl⟩ := heir_of hn hh.2.1
      rw [ix_n (by omega), ix_n (by omega)] at *
      have hab : b ≠ a := fun z => hh.2.2.1 (by rw [z])
      have h3 : n ≤ eF (vE G) a 4 := Int32.not_lt.mp (fun z => h2 (Or.inl z))
      have h4 := in_ti hh.2.2.2
      rw [ti_9999] at h4
      rw [le_ti] at h3
      have ba := bnd_h hg.2.2 hT ha
      have bb := bnd_h hg.2.2 hT hb
      have i0 := inv_0 hg.2.2
      have e1 := ti_sub (a := eF (vE G) a 4) (b := n) (by omega) (by omega)
      have e2 := ti_add (a := eF (vE G) b 4) (b := n) (by omega) (by omega)
      refine inv_E hI (by omega) ⟨hg.1, ?_, ?_⟩ (Nat.le_refl _)
      · intro c hc
        show eF (sF (sF (vE G) a 4 _) b 4 _) c 2 = -1 ∨ ∃ d, d < c ∧ eF (sF (sF (vE G) a 4 _) b 4 _) c 2 = nI d
        rw [eF_sF, if_neg (by omega), eF_sF, if_neg (by omega)]
        exact hg.2.1 c hc
      · have t0 := hg.2.2.2.2
        have t1 := tot_sF4 (v := eF (vE G) a 4 - n) ha
        have b1 : bndE T (sF (vE G) a 4 (eF (vE G) a 4 - n)) := bnd_has hg.2.2 ha (by omega) (by omega)
        have t2 := tot_sF4 (E := sF (vE G) a 4 (eF (vE G) a 4 - n)) (v := eF (vE G) b 4 + n) hb
        rw [eF_sF, if_neg (by omega)] at t2
        exact bnd_has (bnd_le b1 (by omega)) hb (by omega) (by omega)
  · exact inv_r hI _
theorem pr_feed {T : Nat} {G : GV} (hI : inv T G) (l : Int32) : inv (T + 250000) (g_feed G l).2 := by
  unfold g_feed
  split
  · split
    · exact inv_r hI _
    · rename_i h2
      obtain ⟨h1, h2', ⟨m, hm, em⟩, h4⟩ := inv_q hI
      refine ⟨h1, h2', ⟨m + 1, ?_, ?_⟩, h4⟩
      · rw [em] at h2
        by_cases z : m = 250
        · rw [z] at h2; exact absurd (show (250 : Int32) ≤ nI 250 by decide) h2
        · omega
      · show vS G + 1 = _
        rw [em]; exact nI_1 m
  · exact inv_r hI _
theorem pr_wipe {T : Nat} {G : GV} (hI : inv T G) : inv (T + 250000) (g_wipe G).2 := by
  obtain ⟨h1, h2, h3, h4⟩ := inv_q hI
  exact ⟨h1, h2, ⟨0, by omega, rfl⟩, h4⟩
theorem pr_image {T : Nat} {G : GV} (hI : inv T G) : inv (T + 250000) (g_image G).2 := by
  obtain ⟨h1, h2, h3, h4⟩ := inv_q hI
  exact ⟨h1, Or.inr ⟨rfl, h1⟩, h3, h4⟩
theorem pr_back {T : Nat} {G : GV} (hI : inv T G) : inv (T + 250000) (g_back G).2 := by
  unfold g_back
  split
  · rename_i hk
    obtain ⟨h1, h2, h3, h4⟩ := inv_q hI
    have h5 : goodE (T + 250000) (vKE G) := by
      rcases h2 with q | q
      · rw [hk] at q; exact absurd q (by decide)
      · exact q.2
    refine ⟨h5, h2, h3, fun s hs => ?_⟩
    show (backH (vKE G) (vH G) s = -1 ∨ (inI (backH (vKE G) (vH G) s) 4 ∧ ∃ z, z ≤ 40 ∧ vZ G s = nI z) ∨ ∃ j, j < cnt (vKE G) ∧ backH (vKE G) (vH G) s = 10 + nI j)
    unfold backH
    by_cases q : 10 ≤ vH G s ∧ ¬ inI (vH G s - 10) (nI (cnt (vKE G)) - 1)
    · rw [if_pos q]; exact Or.inl rfl
    · rw [if_neg q]
      rcases h4 s hs with z | z | ⟨j, hj, z⟩
      · exact Or.inl z
      · exact Or.inr (Or.inl z)
      · refine Or.inr (Or.inr ?_)
        have e : vH G s = nI (10 + j) := by rw [z, ← nI_add]; rfl
        have hj10 : j < 10 := by have := h1.1.2.1; omega
        have h10 : 10 ≤ vH G s := by rw [e]; exact nI_le (a := 10) (by omega) (by omega)
        have e2 : vH G s - 10 = nI j := by rw [z, Int32.add_comm, Int32.add_sub_cancel]
        have h6 : inI (vH G s - 10) (nI (cnt (vKE G)) - 1) := Decidable.not_not.mp (fun y => q ⟨h10, y⟩)
        rw [e2] at h6
        obtain ⟨j2, hj2, e3⟩ := heir_of h5.1.2.1 h6
        exact ⟨j2, hj2, by rw [z, e3]⟩
  · exact inv_r hI _
theorem pr_years {T : Nat} {G : GV} (hI : inv T G) (hT : T ≤ 1000000000) (n : Int32) : inv (T + 250000) (g_years G n).2 := by
  unfold g_years
  split
  · exact inv_E hI (by omega) (good_le (good_passN hT hI.1 _) (by omega)) (Nat.le_of_eq (sameE_cnt (same_passN _ _)).symm)
  · exact inv_r hI _
theorem draw_b (s : Int32) {n : Int32} (hn : 0 < n) : 0 ≤ (drawI s n).toInt ∧ (drawI s n).toInt < n.toInt := by
  have hn' : 0 < n.toInt := by rw [lt_ti, ti_0] at hn; exact hn
  have hn2 := Int32.toInt_lt n
  unfold drawI
  rw [if_pos hn]
  generalize hq : (s.toUInt32 >>> (Int32.toUInt32 16 &&& Int32.toUInt32 31)) = q
  have q1 : q.toNat < 65536 := by
    rw [← hq, UInt32.toNat_shiftRight, show ((Int32.toUInt32 16 &&& Int32.toUInt32 31).toNat % 32) = 16 by decide, Nat.shiftRight_eq_div_pow]
    have := UInt32.toNat_lt s.toUInt32
    omega
  have q2 : (q.toInt32).toInt = q.toNat := by
    have e : q.toInt32.toInt = q.toBitVec.toInt := rfl
    rw [e, BitVec.toInt_eq_toNat_of_lt (by show 2 * q.toNat < 2 ^ 32; omega)]
    rfl
  obtain ⟨d1, d2, d3⟩ := ti_div (a := q.toInt32) (b := n) (by omega) hn'
  have m1 : 0 ≤ q.toInt32.toInt / n.toInt * n.toInt := Int.mul_nonneg d2 (by omega)
  have m2 : q.toInt32.toInt / n.toInt * n.toInt ≤ q.toInt32.toInt := Int.ediv_mul_le _ (by omega)
  have e1 : (q.toInt32 / n * n).toInt = q.toInt32.toInt / n.toInt * n.toInt := by rw [ti_mul (by rw [d1]; omega) (by rw [d1]; omega), d1]
  rw [ti_sub (by omega) (by omega), e1]
  have m3 := Int.emod_add_mul_ediv q.toInt32.toInt n.toInt
  have m4 := Int.emod_nonneg q.toInt32.toInt (show n.toInt ≠ 0 by omega)
  have m5 := Int.emod_lt_of_pos q.toInt32.toInt hn'
  rw [Int.mul_comm] at m3
  omega
theorem draw_in (s : Int32) {n : Nat} (h0 : 0 < n) (hn : n ≤ 10) : ∃ j, j < n ∧ drawI s (nI n) = nI j := by
  obtain ⟨h1, h2⟩ := draw_b s (n := nI n) (by rw [lt_ti, ti_0, nI_toInt (by omega)]; omega)
  rw [nI_toInt (by omega)] at h2
  exact ⟨(drawI s (nI n)).toInt.toNat, by omega, nI_ofP h1⟩
theorem good_born {T : Nat} {E : ES} (hg : goodE T E) : goodE T (bornE E) ∧ cnt E ≤ cnt (bornE E) := by
  have g3_ : ∀ v, goodE T (sS E 3 v) := fun v => good_sS hg (Or.inr (Or.inl rfl))
  have hn := hg.1.2.1
  unfold bornE
  by_cases q : ¬ drawI (nextQ (eS E 3)) 4 = 0 ∨ ¬ cnt E < 10
  · rw [if_pos q, cnt_s3]; exact ⟨g3_ _, Nat.le_refl _⟩
  · rw [if_neg q]
    have h10 : cnt E < 10 := Decidable.not_not.mp (fun z => q (Or.inr z))
    have a9 : ∀ s, inI (drawI s 10) 9 := fun s => by
      obtain ⟨j, hj, e⟩ := draw_in s (n := 10) (by omega) (by omega)
      rw [show (10 : Int32) = nI 10 from rfl, e]
      exact in_is (m := 9) (by omega) (by omega)
    by_cases q2 : 0 < cnt E
    · rw [if_pos q2]
      refine ⟨good_addE (g3_ _) (by rw [cnt_s3]; exact h10) (a9 _) (Or.inr ?_), by rw [cnt_addE _ _ _ _ _ (by rw [cnt_s3]; exact h10), cnt_s3]; omega⟩
      obtain ⟨j, hj, e⟩ := draw_in (nextQ (nextQ (nextQ (nextQ (eS E 3))))) q2 hn
      exact ⟨j, by rw [cnt_s3]; exact hj, by rw [hg.1.1]; exact e⟩
    · rw [if_neg q2]
      exact ⟨good_addE (g3_ _) (by rw [cnt_s3]; exact h10) (a9 _) (Or.inl rfl), by rw [cnt_addE _ _ _ _ _ (by rw [cnt_s3]; exact h10), cnt_s3]; omega⟩
theorem good_drawn {T : Nat} {E : ES} (hT : T ≤ 1000000000) (hg : goodE T E) : ∀ n, goodE T (drawnN E n).1 ∧ cnt E ≤ cnt (drawnN E n).1
  | 0 => ⟨hg, Nat.le_refl _⟩
  | n + 1 => by
    obtain ⟨h1, h2⟩ := good_drawn hT hg n
    obtain ⟨b1, b2⟩ := good_born h1
    rw [drawnN_s, drawnS_1]
    refine ⟨good_passE hT b1, ?_⟩
    rw [sameE_cnt (same_passE _)]
    omega
theorem pr_drawn {T : Nat} {G : GV} (hI : inv T G) (hT : T ≤ 1000000000) (n : Int32) : inv (T + 250000) (g_drawn G n).2 := by
  unfold g_drawn
  split
  · obtain ⟨h1, h2⟩ := good_drawn hT hI.1 (ix n)
    exact inv_E hI (by omega) (good_le h1 (by omega)) h2
  · exact inv_r hI _
/-! what a text tells -/
theorem good_doE {T d : Nat} {E : ES} {N : Nat → Int32} (hg : goodE T E) (hd : d < 7) (hw : okW E d N) : goodE (T + 999) (doE E (nI d) N) ∧ cnt E ≤ cnt (doE E (nI d) N) := by
  have par : ∀ k, mostN E (nI d) (nI k) = eS E 4 - 1 → k < wantN (nI d) → ∃ j, j < cnt E ∧ N k = nI j := by
    intro k hm hk
    obtain ⟨v, v1, v2, v3⟩ := hw.2 k hk
    rw [hm, hg.1.1] at v3
    exact ⟨v, le_nIm v1 hg.1.2.1 v3, v2⟩
  have a9 : ∀ k, mostN E (nI d) (nI k) = 9 → k < wantN (nI d) → inI (N k) 9 := by
    intro k hm hk
    obtain ⟨v, v1, v2, v3⟩ := hw.2 k hk
    rw [hm] at v3
    rw [v2]
    exact ⟨nI_pos' (by omega), v3⟩
  have a999 : ∀ k, k < wantN (nI d) → 0 ≤ (N k).toInt ∧ (N k).toInt ≤ 999 := by
    intro k hk
    obtain ⟨v, v1, v2, v3⟩ := hw.2 k hk
    rw [v2, nI_toInt (by omega)]
    omega
  rcases (show d = 0 ∨ d = 1 ∨ d = 2 ∨ d = 3 ∨ d = 4 ∨ d = 5 ∨ d = 6 by omega) with rfl | rfl | rfl | rfl | rfl | rfl | rfl
  · have h10 := hw.1 (by omega)
    refine ⟨good_le (good_addE hg h10 (a9 1 rfl (by decide)) (Or.inl rfl)) (by omega), ?_⟩
    have := cnt_addE E (N 0) (N 1) (N 2) (-1) h10
    show cnt E ≤ cnt (addE E (N 0) (N 1) (N 2) (-1))
    omega
  · have h10 := hw.1 (by omega)
    refine ⟨good_le (good_addE hg h10 (a9 1 rfl (by decide)) (Or.inr (par 3 rfl (by decide)))) (by omega), ?_⟩
    have := cnt_addE E (N 0) (N 1) (N 2) (N 3) h10
    show cnt E ≤ cnt (addE E (N 0) (N 1) (N 2) (N 3))
    omega
  · obtain ⟨i, hi, ei⟩ := okW_has hg.1 hw
    have a := a999 1 (by decide)
    refine ⟨?_, Nat.le_refl _⟩
    show goodE _ (sF E (ix (N 0)) 4 (N 1))
    rw [ei, ix_m (j := i) (by have := hg.1.2.1; omega)]
    exact good_le (good_sF4 hg hi a.1) (by omega)
  · have a := a999 0 (by decide)
    refine ⟨good_le (good_sto hg a.1 (by omega)) (by omega), Nat.le_of_eq (cnt_sS _ _ _ (by omega)).symm⟩
  · exact ⟨good_le (good_sS hg (Or.inl rfl)) (by omega), Nat.le_of_eq (cnt_sS _ _ _ (by omega)).symm⟩
  · exact ⟨good_le (good_sS hg (Or.inr (Or.inr ⟨rfl, okW_rule hw⟩))) (by omega), Nat.le_of_eq (cnt_sS _ _ _ (by omega)).symm⟩
  · exact ⟨good_le (good_sJ hg) (by omega), Nat.le_refl _⟩
theorem good_stmt {B : Nat → Int32} {n Tt : Nat} {E : ES} {T : Nat × Nat × Int32} (hg : goodE Tt E) (hT : T.2.1 ≤ n) : goodE (Tt + 999) (stmtB B n E T).2.2 ∧ cnt E ≤ cnt (stmtB B n E T).2.2 := by
  unfold stmtB
  split
  · exact ⟨good_le hg (by omega), Nat.le_refl _⟩
  · rename_i q
    dsimp only
    split
    · rename_i q2
      rcases wordB_r B T with hw | ⟨d, hd, hw⟩
      · exact absurd (Or.inl hw) q
      · rw [hw] at q q2 ⊢
        have z := readN_ok (wantN (nI d)) 0 T (fun _ => 0) hT (fun k hk => absurd hk (Nat.not_lt_zero k)) q2
        rw [Nat.zero_add] at z
        refine good_doE hg hd ⟨fun hd2 => ?_, z⟩
        by_cases y : cnt E < 10
        · exact y
        · refine absurd (Or.inr ⟨?_, y⟩) q
          rcases (show d = 0 ∨ d = 1 by omega) with rfl | rfl
          · exact Or.inl rfl
          · exact Or.inr rfl
    · exact ⟨good_le hg (by omega), Nat.le_refl _⟩
theorem good_into {B : Nat → Int32} {n : Nat} : ∀ r Tt k (T : Nat × Nat × Int32) E, goodE Tt E → T.1 ≤ T.2.1 → T.2.1 ≤ n → goodE (Tt + 999 * r) (intoB B n r k T E).2.2 ∧ cnt E ≤ cnt (intoB B n r k T E).2.2
  | 0, _, _, _, _, ho, _, _ => ⟨good_le ho (by omega), Nat.le_refl _⟩
  | r + 1, Tt, k, T, E, ho, h1, h2 => by
    have bS := stmtB_b (B := B) E h1 h2
    have oS := good_stmt (B := B) (T := T) ho h2
    have g2 := nextB_g B bS.2
    have g3 := nextB_g B g2.2.1
    rw [intoB_s]
    split
    · exact ⟨good_le oS.1 (by omega), oS.2⟩
    · split
      · exact ⟨good_le oS.1 (by omega), oS.2⟩
      · split
        · obtain ⟨z1, z2⟩ := good_into r (Tt + 999) (k + 1) _ _ oS.1 g3.1 g3.2.1
          exact ⟨good_le z1 (by omega), Nat.le_trans oS.2 z2⟩
        · exact ⟨good_le oS.1 (by omega), oS.2⟩
theorem pr_store {T : Nat} {G : GV} (hI : inv T G) : inv (T + 250000) (g_store G).2 := by
  have hw : ∀ G' : GV, inv (T + 250000) G' → inv (T + 250000) (uT G' 0 (vB G)) := fun G' h => ⟨h.1, h.2.1, ⟨0, by omega, rfl⟩, h.2.2.2⟩
  unfold g_store
  split
  · exact hw G (inv_q hI)
  · obtain ⟨z1, z2⟩ := good_into (B := vB G) (n := ix (vS G)) 250 T 1 (nextB (vB G) (ix (vS G)) 0) (vE G) hI.1 (nextB_g (vB G) (Nat.zero_le _)).1 (nextB_g (vB G) (Nat.zero_le _)).2.1
    exact hw _ (inv_E hI (by omega) (good_le z1 (by omega)) z2)
