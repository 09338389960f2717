variable {nn : Nat}
/-! ===== the law's year: it passes as the class's ===== -/
theorem relH_mk {B B' : Nat → Int32} {E E' : ES} {i : Nat} (h : relH B E i) (e : ∀ k, eF E' i k = eF E i k) (b5 : B' (5 + i) = B (5 + i)) (b15 : B' (15 + i) = B (15 + i)) (b25 : B' (25 + i) = B (25 + i)) : relH B' E' i := by
  obtain ⟨⟨k, a, f, y, u, ⟨s1, s2, s3, s4, s5, s6, s7⟩, hb⟩, h4, h5⟩ := h
  exact ⟨⟨k, a, f, y, u, ⟨s1, s2, by rw [e]; exact s3, by rw [e]; exact s4, by rw [e]; exact s5, by rw [e]; exact s6, by rw [e]; exact s7⟩, by rw [b5]; exact hb⟩, by rw [b15, e]; exact h4, by rw [b25, e]; exact h5⟩
theorem relB_mk {B B' : Nat → Int32} {E E' : ES} (hr : relB B E) (c4 : eS E' 4 = eS E 4) (c1 : eS E' 1 = eS E 1) (c2 : eS E' 2 = eS E 2) (cj : ∀ t, eJ E' t = eJ E t) (h0 : B' 0 = B 0) (h1 : B' 1 = eS E' 0) (h2 : B' 2 = B 2) (h3 : B' 3 = B 3) (hj : ∀ t, t < 8 → B' (35 + t) = B (35 + t)) (hh : ∀ i, i < cnt E → relH B' E' i) : relB B' E' := by
  have hc : cnt E' = cnt E := by unfold cnt; rw [c4]
  obtain ⟨⟨r0, r0b⟩, r1, ⟨r2, r2b⟩, r3, r4, r5⟩ := hr
  exact ⟨⟨by rw [h0, hc]; exact r0, by rw [hc]; exact r0b⟩, h1, ⟨by rw [h2, c1]; exact r2, by rw [c1]; exact r2b⟩, by rw [h3, c2]; exact r3, fun t ht => ⟨by rw [hj t ht, cj]; exact (r4 t ht).1, by rw [cj]; exact (r4 t ht).2⟩, fun i hi => hh i (by rw [← hc]; exact hi)⟩
theorem kF {a b : Nat} (h : a ≠ b) : (a = b) = False := eq_false h
theorem come_y {i : Nat} {E : ES} (q : eF E i 6 = 0 ∧ 21 ≤ eS E 1 - eF E i 3) : comeS i E = sS (sF (sF E i 6 1) i 4 (eF E i 4 + portE E)) 0 (eS E 0 - portE E) := if_pos q
theorem come_n {i : Nat} {E : ES} (q : ¬ (eF E i 6 = 0 ∧ 21 ≤ eS E 1 - eF E i 3)) : comeS i E = E := if_neg q
theorem die_y {i : Nat} {E : ES} (q : eF E i 6 = 1 ∧ 70 ≤ eS E 1 - eF E i 3) : dieS i E = beqE (sF E i 6 2) i := if_pos q
theorem die_n {i : Nat} {E : ES} (q : ¬ (eF E i 6 = 1 ∧ 70 ≤ eS E 1 - eF E i 3)) : dieS i E = E := if_neg q
theorem cd_up (k a f y u : Nat) : nI (cdE k a f y u) + 10000000 = nI (cdE k a f y (u + 1)) := by
  have e : cdE k a f y u + 10000000 = cdE k a f y (u + 1) := by unfold cdE; omega
  rw [← e]
  exact nI_add _ _
theorem relB_come {h : AH} {E : ES} {i k a f y : Nat} (hr : relB (gI h 64) E) (hi : i < cnt E) (hs : smE E i k a f y 0) : relB (gI (pI (pI (pI h 64 1 (eS E 0 - portE E)) 64 (15 + i) (eF E i 4 + portE E)) 64 (5 + i) (nI (cdE k a f y (0 + 1)))) 64) (sS (sF (sF E i 6 1) i 4 (eF E i 4 + portE E)) 0 (eS E 0 - portE E)) := by
  have hn := hr.1.2
  refine relB_mk hr (by rw [eS_sS, if_neg (by omega)]; rfl) (by rw [eS_sS, if_neg (by omega)]; rfl) (by rw [eS_sS, if_neg (by omega)]; rfl) (fun t => rfl) ?_ ?_ ?_ ?_ (fun t ht => ?_) (fun j hj => ?_)
  · rw [gB, gB, gB, if_neg (by omega), if_neg (by omega), if_neg (by omega)]
  · rw [gB, gB, gB, if_neg (by omega), if_neg (by omega), if_pos rfl, eS_sS, if_pos rfl]
  · rw [gB, gB, gB, if_neg (by omega), if_neg (by omega), if_neg (by omega)]
  · rw [gB, gB, gB, if_neg (by omega), if_neg (by omega), if_neg (by omega)]
  · rw [gB, gB, gB, if_neg (by omega), if_neg (by omega), if_neg (by omega)]
  · by_cases z : j = i
    · subst z
      obtain ⟨⟨s1, s1b, s1c, s1d, s1e⟩, s2, s3, s4, s5, s6, s7⟩ := hs
      obtain ⟨-, h4, h5⟩ := hr.2.2.2.2.2 j hj
      refine ⟨⟨k, a, f, y, 1, ⟨⟨s1, s1b, s1c, s1d, by omega⟩, s2, ?_, ?_, ?_, ?_, ?_⟩, ?_⟩, ?_, ?_⟩
      · rw [eF_sS, eF_sF, if_neg (by omega), eF_sF, if_neg (by omega)]; exact s3
      · rw [eF_sS, eF_sF, if_neg (by omega), eF_sF, if_neg (by omega)]; exact s4
      · rw [eF_sS, eF_sF, if_neg (by omega), eF_sF, if_neg (by omega)]; exact s5
      · rw [eF_sS, eF_sF, if_neg (by omega), eF_sF, if_neg (by omega)]; exact s6
      · rw [eF_sS, eF_sF, if_neg (by omega), eF_sF, if_pos ⟨rfl, rfl⟩]; rfl
      · rw [gB, if_pos rfl]
      · rw [gB, gB, if_neg (by omega), if_pos rfl, eF_sS, eF_sF, if_pos ⟨rfl, rfl⟩]
      · rw [gB, gB, gB, if_neg (by omega), if_neg (by omega), if_neg (by omega), eF_sS, eF_sF, if_neg (by omega), eF_sF, if_neg (by omega)]; exact h5
    · refine relH_mk (hr.2.2.2.2.2 j hj) (fun k => ?_) ?_ ?_ ?_
      · rw [eF_sS, eF_sF, if_neg (fun x => z x.1), eF_sF, if_neg (fun x => z x.1)]
      · rw [gB, gB, gB, if_neg (by omega), if_neg (by omega), if_neg (by omega)]
      · rw [gB, gB, gB, if_neg (by omega), if_neg (by omega), if_neg (by omega)]
      · rw [gB, gB, gB, if_neg (by omega), if_neg (by omega), if_neg (by omega)]
theorem relB_drink {h : AH} {E : ES} {i : Nat} {v : Int32} (hr : relB (gI h 64) E) (hi : i < cnt E) : relB (gI (pI (pI h 64 (15 + i) (eF E i 4 - v)) 64 (25 + i) (eF E i 5 + v)) 64) (sF (sF E i 4 (eF E i 4 - v)) i 5 (eF E i 5 + v)) := by
  have hn := hr.1.2
  refine relB_mk hr rfl rfl rfl (fun t => rfl) ?_ ?_ ?_ ?_ (fun t ht => ?_) (fun j hj => ?_)
  · rw [gB, gB, if_neg (by omega), if_neg (by omega)]
  · rw [gB, gB, if_neg (by omega), if_neg (by omega)]; exact hr.2.1
  · rw [gB, gB, if_neg (by omega), if_neg (by omega)]
  · rw [gB, gB, if_neg (by omega), if_neg (by omega)]
  · rw [gB, gB, if_neg (by omega), if_neg (by omega)]
  · by_cases z : j = i
    · subst z
      obtain ⟨⟨k, a, f, y, u, ⟨s1, s2, s3, s4, s5, s6, s7⟩, hb⟩, h4, h5⟩ := hr.2.2.2.2.2 j hj
      refine ⟨⟨k, a, f, y, u, ⟨s1, s2, ?_, ?_, ?_, ?_, ?_⟩, ?_⟩, ?_, ?_⟩
      · rw [eF_sF, if_neg (by omega), eF_sF, if_neg (by omega)]; exact s3
      · rw [eF_sF, if_neg (by omega), eF_sF, if_neg (by omega)]; exact s4
      · rw [eF_sF, if_neg (by omega), eF_sF, if_neg (by omega)]; exact s5
      · rw [eF_sF, if_neg (by omega), eF_sF, if_neg (by omega)]; exact s6
      · rw [eF_sF, if_neg (by omega), eF_sF, if_neg (by omega)]; exact s7
      · rw [gB, gB, if_neg (by omega), if_neg (by omega)]; exact hb
      · rw [gB, gB, if_neg (by omega), if_pos rfl, eF_sF, if_neg (by omega), eF_sF, if_pos ⟨rfl, rfl⟩]
      · rw [gB, if_pos rfl, eF_sF, if_pos ⟨rfl, rfl⟩]
    · refine relH_mk (hr.2.2.2.2.2 j hj) (fun k => ?_) ?_ ?_ ?_
      · rw [eF_sF, if_neg (fun x => z x.1), eF_sF, if_neg (fun x => z x.1)]
      · rw [gB, gB, if_neg (by omega), if_neg (by omega)]
      · rw [gB, gB, if_neg (by omega), if_neg (by omega)]
      · rw [gB, gB, if_neg (by omega), if_neg (by omega)]
theorem relB_dead {h : AH} {E : ES} {i k a f y : Nat} (hr : relB (gI h 64) E) (hi : i < cnt E) (hs : smE E i k a f y 1) : relB (gI (pI h 64 (5 + i) (nI (cdE k a f y (1 + 1)))) 64) (sF E i 6 2) := by
  have hn := hr.1.2
  refine relB_mk hr rfl rfl rfl (fun t => rfl) ?_ ?_ ?_ ?_ (fun t ht => ?_) (fun j hj => ?_)
  · rw [gB, if_neg (by omega)]
  · rw [gB, if_neg (by omega)]; exact hr.2.1
  · rw [gB, if_neg (by omega)]
  · rw [gB, if_neg (by omega)]
  · rw [gB, if_neg (by omega)]
  · by_cases z : j = i
    · subst z
      obtain ⟨⟨s1, s1b, s1c, s1d, s1e⟩, s2, s3, s4, s5, s6, s7⟩ := hs
      obtain ⟨-, h4, h5⟩ := hr.2.2.2.2.2 j hj
      refine ⟨⟨k, a, f, y, 2, ⟨⟨s1, s1b, s1c, s1d, by omega⟩, s2, ?_, ?_, ?_, ?_, ?_⟩, ?_⟩, ?_, ?_⟩
      · rw [eF_sF, if_neg (by omega)]; exact s3
      · rw [eF_sF, if_neg (by omega)]; exact s4
      · rw [eF_sF, if_neg (by omega)]; exact s5
      · rw [eF_sF, if_neg (by omega)]; exact s6
      · rw [eF_sF, if_pos ⟨rfl, rfl⟩]; rfl
      · rw [gB, if_pos rfl]
      · rw [gB, if_neg (by omega), eF_sF, if_neg (by omega)]; exact h4
      · rw [gB, if_neg (by omega), eF_sF, if_neg (by omega)]; exact h5
    · refine relH_mk (hr.2.2.2.2.2 j hj) (fun k => ?_) ?_ ?_ ?_
      · rw [eF_sF, if_neg (fun x => z x.1)]
      · rw [gB, if_neg (by omega)]
      · rw [gB, if_neg (by omega)]
      · rw [gB, if_neg (by omega)]
/-- has of one, in the row and in the estate -/
theorem relB_has {h : AH} {E : ES} {i : Nat} {v : Int32} (hr : relB (gI h 64) E) (hi : i < cnt E) : relB (gI (pI h 64 (15 + i) v) 64) (sF E i 4 v) := by
  have hn := hr.1.2
  refine relB_mk hr rfl rfl rfl (fun t => rfl) ?_ ?_ ?_ ?_ (fun t ht => ?_) (fun j hj => ?_)
  · rw [gB, if_neg (by omega)]
  · rw [gB, if_neg (by omega)]; exact hr.2.1
  · rw [gB, if_neg (by omega)]
  · rw [gB, if_neg (by omega)]
  · rw [gB, if_neg (by omega)]
  · by_cases z : j = i
    · subst z
      obtain ⟨⟨k, a, f, y, u, ⟨s1, s2, s3, s4, s5, s6, s7⟩, hb⟩, h4, h5⟩ := hr.2.2.2.2.2 j hj
      refine ⟨⟨k, a, f, y, u, ⟨s1, s2, ?_, ?_, ?_, ?_, ?_⟩, ?_⟩, ?_, ?_⟩
      · rw [eF_sF, if_neg (by omega)]; exact s3
      · rw [eF_sF, if_neg (by omega)]; exact s4
      · rw [eF_sF, if_neg (by omega)]; exact s5
      · rw [eF_sF, if_neg (by omega)]; exact s6
      · rw [eF_sF, if_neg (by omega)]; exact s7
      · rw [gB, if_neg (by omega)]; exact hb
      · rw [gB, if_pos rfl, eF_sF, if_pos ⟨rfl, rfl⟩]
      · rw [gB, if_neg (by omega), eF_sF, if_neg (by omega)]; exact h5
    · refine relH_mk (hr.2.2.2.2.2 j hj) (fun k => ?_) ?_ ?_ ?_
      · rw [eF_sF, if_neg (fun x => z x.1)]
      · rw [gB, if_neg (by omega)]
      · rw [gB, if_neg (by omega)]
      · rw [gB, if_neg (by omega)]
theorem relB_sto {h : AH} {E : ES} {v : Int32} (hr : relB (gI h 64) E) : relB (gI (pI h 64 1 v) 64) (sS E 0 v) := by
  have hn := hr.1.2
  refine relB_mk hr (by rw [eS_sS, if_neg (by omega)]) (by rw [eS_sS, if_neg (by omega)]) (by rw [eS_sS, if_neg (by omega)]) (fun t => rfl) ?_ ?_ ?_ ?_ (fun t ht => ?_) (fun j hj => ?_)
  · rw [gB, if_neg (by omega)]
  · rw [gB, if_pos rfl, eS_sS, if_pos rfl]
  · rw [gB, if_neg (by omega)]
  · rw [gB, if_neg (by omega)]
  · rw [gB, if_neg (by omega)]
  · refine relH_mk (hr.2.2.2.2.2 j hj) (fun k => rfl) ?_ ?_ ?_
    · rw [gB, if_neg (by omega)]
    · rw [gB, if_neg (by omega)]
    · rw [gB, if_neg (by omega)]
theorem relB_tick {h : AH} {E : ES} (hr : relB (gI h 64) E) (hy : eS E 1 < 999) : relB (gI (pI h 64 2 (eS E 1 + 1)) 64) (sS E 1 (eS E 1 + 1)) := by
  have hn := hr.1.2
  obtain ⟨⟨r0, r0b⟩, r1, ⟨r2, w, hw, e⟩, r3, r4, r5⟩ := hr
  have hc : cnt (sS E 1 (eS E 1 + 1)) = cnt E := cnt_sS _ _ _ (by omega)
  rw [e, show (999 : Int32) = nI 999 from rfl, nI_ltx (by omega) (by omega)] at hy
  refine ⟨⟨?_, by rw [hc]; exact r0b⟩, ?_, ⟨?_, w + 1, by omega, ?_⟩, ?_, fun t ht => ⟨?_, (r4 t ht).2⟩, fun j hj => ?_⟩
  · rw [gB, if_neg (by omega), hc]; exact r0
  · rw [gB, if_neg (by omega), eS_sS, if_neg (by omega)]; exact r1
  · rw [gB, if_pos rfl, eS_sS, if_pos rfl]
  · rw [eS_sS, if_pos rfl, e]; exact nI_1 w
  · rw [gB, if_neg (by omega), eS_sS, if_neg (by omega)]; exact r3
  · rw [gB, if_neg (by omega)]; exact (r4 t ht).1
  · rw [hc] at hj
    refine relH_mk (r5 j hj) (fun k => rfl) ?_ ?_ ?_
    · rw [gB, if_neg (by omega)]
    · rw [gB, if_neg (by omega)]
    · rw [gB, if_neg (by omega)]
theorem good_comeN {T : Nat} {E : ES} (hT : T ≤ 1000000000) (hg : goodE T E) (n : Nat) (hn : n ≤ cnt E) : goodE T (forN n comeS E) ∧ cnt (forN n comeS E) = cnt E :=
  forN_P (P := fun E' => goodE T E' ∧ cnt E' = cnt E) ⟨hg, rfl⟩ n (fun i E' hi h => ⟨⟨sameE_ok (same_comeS i E') h.1.1, okT_same (same_comeS i E') h.1.2.1, bnd_comeS (n := 0) hT h.1.2.2 (by rw [h.2]; omega)⟩, by rw [sameE_cnt (same_comeS i E')]; exact h.2⟩)
theorem good_drinkN {T : Nat} {E : ES} (hT : T ≤ 1000000000) (hg : goodE T E) (n : Nat) (hn : n ≤ cnt E) : goodE T (forN n drinkS (E, 0)).1 ∧ cnt (forN n drinkS (E, 0)).1 = cnt E :=
  forN_P (P := fun p : ES × Int32 => goodE T p.1 ∧ cnt p.1 = cnt E) (s := (E, 0)) ⟨hg, rfl⟩ n (fun i p hi h => ⟨⟨sameE_ok (same_drinkS i p) h.1.1, okT_same (same_drinkS i p) h.1.2.1, bnd_drinkS hT h.1.2.2 (by rw [h.2]; omega)⟩, by rw [sameE_cnt (same_drinkS i p)]; exact h.2⟩)
theorem good_dieN {T : Nat} {E : ES} (hT : T ≤ 1000000000) (hg : goodE T E) (n : Nat) (hn : n ≤ cnt E) : goodE T (forN n dieS E) ∧ cnt (forN n dieS E) = cnt E :=
  forN_P (P := fun E' => goodE T E' ∧ cnt E' = cnt E) ⟨hg, rfl⟩ n (fun i E' hi h => ⟨⟨sameE_ok (same_dieS i E') h.1.1, okT_same (same_dieS i E') h.1.2.1, bnd_dieS hT h.1.1.2.1 h.1.2.2 (by rw [h.2]; omega)⟩, by rw [sameE_cnt (same_dieS i E')]; exact h.2⟩)
theorem liv_s (E : ES) (d n : Nat) : forN (n + 1) (fun i a => if eF E i 2 = nI d ∧ ¬ eF E i 6 = 2 then a + 1 else a) (0 : Int32) = if eF E n 2 = nI d ∧ ¬ eF E n 6 = 2 then forN n (fun i a => if eF E i 2 = nI d ∧ ¬ eF E i 6 = 2 then a + 1 else a) (0 : Int32) + 1 else forN n (fun i a => if eF E i 2 = nI d ∧ ¬ eF E i 6 = 2 then a + 1 else a) (0 : Int32) := rfl
