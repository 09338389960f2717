variable {nn : Nat}
/-! ===== what the law asks of the years ahead ===== -/
theorem passN_c : ∀ (t : Nat) (E : ES), passN t (passE E).1 = (passE (passN t E)).1
  | 0, E => rfl
  | t + 1, E => by rw [passN_n, passN_c t E, passN_n]
theorem passN_c1 (t : Nat) (E : ES) : passN t (passE E).1 = passN (t + 1) E := by rw [passN_c, passN_n]
theorem until_spec : ∀ (r y : Nat) (E : ES), (∃ t, t ≤ r ∧ untilE y r E = y + t ∧ eS (passN t E) 0 = 0 ∧ ∀ t', t' < t → ¬ eS (passN t' E) 0 = 0) ∨ (untilE y r E = y + r + 1 ∧ ∀ t', t' ≤ r → ¬ eS (passN t' E) 0 = 0)
  | 0, y, E => by
    by_cases q : eS E 0 = 0
    · exact Or.inl ⟨0, Nat.le_refl 0, if_pos q, q, fun t' h => absurd h (Nat.not_lt_zero t')⟩
    · exact Or.inr ⟨if_neg q, fun t' h => by rw [show t' = 0 by omega]; exact q⟩
  | r + 1, y, E => by
    rw [untilE_s]
    by_cases q : eS E 0 = 0
    · rw [if_pos q]
      exact Or.inl ⟨0, by omega, rfl, q, fun t' h => absurd h (Nat.not_lt_zero t')⟩
    · rw [if_neg q]
      rcases until_spec r (y + 1) (passE E).1 with ⟨t, h1, h2, h3, h4⟩ | ⟨h1, h2⟩
      · refine Or.inl ⟨t + 1, by omega, by omega, by rw [← passN_c1]; exact h3, fun t' h => ?_⟩
        cases t' with
        | zero => exact q
        | succ t' => rw [← passN_c1]; exact h4 t' (by omega)
      · refine Or.inr ⟨by omega, fun t' h => ?_⟩
        cases t' with
        | zero => exact q
        | succ t' => rw [← passN_c1]; exact h2 t' (by omega)
def outV (E : ES) : Int32 := if outI (supE E) ≤ 200 then outI (supE E) else -1
theorem out_b (E : ES) : untilE 0 200 E ≤ 201 := by
  rcases until_spec 200 0 E with ⟨t, h1, h2, -⟩ | ⟨h1, -⟩ <;> omega
/-- OUT: never, or behind t YEARS for the first time -/
theorem out_spec (E : ES) : (outV E = -1 ∧ untilE 0 200 (supE E) = 201) ∨ ∃ t, t ≤ 200 ∧ outV E = nI t ∧ untilE 0 200 (supE E) = t ∧ eS (passN t (supE E)) 0 = 0 ∧ ∀ t', t' < t → ¬ eS (passN t' (supE E)) 0 = 0 := by
  have hl : ∀ t, t ≤ 201 → (nI t ≤ 200) = (t ≤ 200) := fun t ht => nI_lex (b := 200) (by omega) (by omega)
  unfold outV outI
  rcases until_spec 200 0 (supE E) with ⟨t, h1, h2, h3, h4⟩ | ⟨h1, h2⟩
  · rw [h2, Nat.zero_add, if_pos (by rw [hl t (by omega)]; exact h1)]
    exact Or.inr ⟨t, h1, rfl, rfl, h3, h4⟩
  · rw [h1, if_neg (by rw [hl 201 (by omega)]; omega)]
    exact Or.inl ⟨rfl, rfl⟩
theorem late_max {f : Nat → Int32} : ∀ m, 0 < m → (∀ c, c < m → 0 ≤ (f c).toInt) → ∃ c, c < m ∧ (lateN f m).1 = nI c ∧ (lateN f m).2 = f c ∧ ∀ c', c' < m → (f c').toInt ≤ (f c).toInt
  | 0, h, _ => absurd h (Nat.lt_irrefl 0)
  | 1, _, h0 => by
    have h := h0 0 (by omega)
    have e : lateN f 1 = (nI 0, f 0) := by
      rw [lateN_s, if_pos]
      rw [lt_ti]
      have e1 : ((lateN f 0).2).toInt = -1 := (show (-1 : Int32).toInt = -1 by decide)
      omega
    rw [e]
    exact ⟨0, by omega, rfl, rfl, fun c' hc => by rw [show c' = 0 by omega]; exact Int.le_refl _⟩
  | m + 2, _, h0 => by
    obtain ⟨c, h1, h2, h3, h4⟩ := late_max (f := f) (m + 1) (by omega) (fun c hc => h0 c (by omega))
    rw [lateN_s]
    by_cases q : (lateN f (m + 1)).2 < f (m + 1)
    · rw [if_pos q]
      rw [h3, lt_ti] at q
      refine ⟨m + 1, by omega, rfl, rfl, fun c' hc => ?_⟩
      by_cases z : c' = m + 1
      · rw [z]; exact Int.le_refl _
      · have := h4 c' (by omega); omega
    · rw [if_neg q]
      rw [h3, lt_ti] at q
      refine ⟨c, by omega, h2, h3, fun c' hc => ?_⟩
      by_cases z : c' = m + 1
      · rw [z]; omega
      · exact h4 c' (by omega)
theorem fair_min {f : Nat → Int32} : ∀ m, 0 < m → (∀ c, c < m → 0 ≤ (f c).toInt) → ∃ c, c < m ∧ (fairN f m).1 = nI c ∧ (fairN f m).2 = f c ∧ ∀ c', c' < m → (f c).toInt ≤ (f c').toInt
  | 0, h, _ => absurd h (Nat.lt_irrefl 0)
  | 1, _, h0 => by
    have e : fairN f 1 = (nI 0, f 0) := by
      rw [fairN_s, if_pos]
      exact Or.inl rfl
    rw [e]
    exact ⟨0, by omega, rfl, rfl, fun c' hc => by rw [show c' = 0 by omega]; exact Int.le_refl _⟩
  | m + 2, _, h0 => by
    obtain ⟨c, h1, h2, h3, h4⟩ := fair_min (f := f) (m + 1) (by omega) (fun c hc => h0 c (by omega))
    have hc0 := h0 c (by omega)
    rw [fairN_s]
    by_cases q : (fairN f (m + 1)).2 = -1 ∨ f (m + 1) < (fairN f (m + 1)).2
    · rw [if_pos q]
      rw [h3] at q
      have q2 : (f (m + 1)).toInt < (f c).toInt := by
        rcases q with q | q
        · rw [q] at hc0; exact absurd hc0 (by decide)
        · rw [lt_ti] at q; exact q
      refine ⟨m + 1, by omega, rfl, rfl, fun c' hc => ?_⟩
      by_cases z : c' = m + 1
      · rw [z]; exact Int.le_refl _
      · have := h4 c' (by omega); omega
    · rw [if_neg q]
      rw [h3, lt_ti] at q
      refine ⟨c, by omega, h2, h3, fun c' hc => ?_⟩
      by_cases z : c' = m + 1
      · rw [z]; omega
      · exact h4 c' (by omega)
theorem sup_sS (E : ES) (v : Int32) : supE (sS E 2 v) = sS (supE E) 2 v := by
  have hc : cnt (sS E 2 v) = cnt E := cnt_sS _ _ _ (by omega)
  have key : ∀ n, forgetE n (sS E 2 v) = sS (forgetE n E) 2 v := by
    intro n
    induction n with
    | zero => rfl
    | succ n ih =>
      have e1 : forgetE (n + 1) (sS E 2 v) = sF (forgetE n (sS E 2 v)) n 5 0 := rfl
      rw [e1, ih]; rfl
  unfold supE
  rw [hc, key]
theorem supC_0 (E : ES) (c : Nat) : supC E 0 0 c = supE (sS E 2 (nI c)) := by
  rw [sup_sS]; exact if_pos rfl
theorem sS_same {E : ES} {k : Nat} {v : Int32} (h : eS E k = v) : sS E k v = E := by
  refine est_ext (fun j => ?_) (fun t => rfl) (fun i j => rfl)
  rw [eS_sS]
  by_cases z : j = k
  · rw [if_pos z, z, h]
  · rw [if_neg z]
theorem outI_t (E : ES) : (outI E).toInt = untilE 0 200 E := by
  have := out_b E
  exact nI_toInt (by omega)
/-- LONGEST: the RULE by which OUT is latest -/
theorem long_spec {E : ES} {c0 : Nat} (hc : c0 < 3) (h2 : eS E 2 = nI c0) : ∃ c, c < 3 ∧ lateE E 0 0 3 = nI c ∧ untilE 0 200 (supE E) ≤ untilE 0 200 (supE (sS E 2 (nI c))) := by
  obtain ⟨c, h1, h3, h4, h5⟩ := late_max (f := fun c => outI (supC E 0 0 c)) 3 (by omega) (fun c _ => by rw [outI_t]; omega)
  refine ⟨c, h1, h3, ?_⟩
  have h6 := h5 c0 hc
  rw [outI_t, outI_t, supC_0, supC_0, sS_same h2] at h6
  omega
theorem long_out {E : ES} {v : Int32} (h : untilE 0 200 (supE E) ≤ untilE 0 200 (supE (sS E 2 v))) : (outV E = -1 → outV (sS E 2 v) = -1) ∧ ∀ t, outV E = nI t → t ≤ 200 → outV (sS E 2 v) = -1 ∨ ∃ t', t ≤ t' ∧ t' ≤ 200 ∧ outV (sS E 2 v) = nI t' := by
  rcases out_spec E with ⟨a1, a2⟩ | ⟨t, a1, a2, a3, -⟩
  · rcases out_spec (sS E 2 v) with ⟨b1, b2⟩ | ⟨t', b1, b2, b3, -⟩
    · exact ⟨fun _ => b1, fun _ _ _ => Or.inl b1⟩
    · omega
  · have n1 : ¬ outV E = -1 := by rw [a2]; exact of_eq_false (eq_false (fun z => absurd (show nI t < 0 by rw [z]; decide) (nI_pos (by omega))))
    refine ⟨fun z => absurd z n1, fun t0 z ht => ?_⟩
    rw [a2, kq (by omega) (by omega)] at z
    rcases out_spec (sS E 2 v) with ⟨b1, b2⟩ | ⟨t', b1, b2, b3, -⟩
    · exact Or.inl b1
    · exact Or.inr ⟨t', by omega, b1, b2⟩
theorem wld_sup {E : ES} (h : wldE E) : wldE (supE E) ∧ ∀ i, i < cnt E → eF (supE E) i 5 = 0 := by
  have hg := wld_good h
  have hs : sameE E (supE E) := same_forget _ _
  have h5 : ∀ i, i < cnt E → eF (supE E) i 5 = 0 := fun i hi => by
    show eF (forgetE (cnt E) E) i 5 = 0
    rw [fg_f, if_pos ⟨hi, rfl⟩]
  have h4 : ∀ i k, k ≠ 5 → eF (supE E) i k = eF E i k := fun i k hk => by
    show eF (forgetE (cnt E) E) i k = _
    rw [fg_f, if_neg (by omega)]
  have hS : ∀ k, eS (supE E) k = eS E k := fun k => congrFun (fg_s E (cnt E)).1 k
  have hc : cnt (supE E) = cnt E := sameE_cnt hs
  have g : goodE 9999 (supE E) := by
    refine ⟨sameE_ok hs hg.1, okT_same hs hg.2.1, bnd_iff.mpr ?_⟩
    obtain ⟨b1, b2, b3⟩ := bnd_iff.mp hg.2.2
    rw [hS, hc]
    refine ⟨b1, fun i hi => by rw [h4 i 1 (by omega), h4 i 4 (by omega)]; exact b2 i hi, ?_⟩
    have e : totE (supE E) = totE E := by
      unfold totE
      rw [hc, hS, sumI_eq (cnt E) (fun i _ => by rw [h4 i 4 (by omega)])]
    rw [e]; exact b3
  exact ⟨⟨g.1, g.2.1, wE_0 g (fun i hi => h5 i (by rw [← hc]; exact hi))⟩, h5⟩
/-- FAIREST -/
theorem wld_rule {E : ES} {c : Nat} (h : wldE E) (hc : c < 3) : wldE (sS E 2 (nI c)) := by
  obtain ⟨h1, h2, h3⟩ := h
  have hv : nI c = 0 ∨ nI c = 1 ∨ nI c = 2 := by
    rcases (show c = 0 ∨ c = 1 ∨ c = 2 by omega) with rfl | rfl | rfl
    · exact Or.inl rfl
    · exact Or.inr (Or.inl rfl)
    · exact Or.inr (Or.inr rfl)
  refine ⟨same_ok (E := E) rfl (Or.inr hv) h1, h2, ?_⟩
  exact wE_same h3 (cnt_sS _ _ _ (by omega)) (fun i => rfl) (fun T' _ hb => bnd_sS hb (by omega) (by omega))
theorem unf_0 {E : ES} (h : wldE E) (n : Nat) : 0 ≤ (unfairE (passN n (supE E))).toInt := by
  have h1 := wld_pass (wld_sup h).1 n
  exact (unf_b (by omega) h1.1 h1.2.2).1
theorem fair_spec {E : ES} {c0 n : Nat} (h : wldE E) (hc : c0 < 3) (h2 : eS E 2 = nI c0) : ∃ c, c < 3 ∧ (fairN (unfC E n) 3).1 = nI c ∧ unfairE (passN n (supE (sS E 2 (nI c)))) ≤ unfairE (passN n (supE E)) := by
  have e : ∀ c, unfC E n c = unfairE (passN n (supE (sS E 2 (nI c)))) := fun c => by unfold unfC; rw [supC_0]
  obtain ⟨c, h1, h3, h4, h5⟩ := fair_min (f := unfC E n) 3 (by omega) (fun c hc => by rw [e]; exact unf_0 (wld_rule h hc) n)
  refine ⟨c, h1, h3, ?_⟩
  have h6 := h5 c0 hc
  rw [e, e, sS_same h2] at h6
  rw [le_ti]; exact h6
/-- most at once of age -/
theorem most_ge : ∀ (r : Nat) (m : Int32) (E : ES), m ≤ mostR r m E ∧ ∀ t, 0 < t → t ≤ r → areN (passN t E) 1 ≤ mostR r m E
  | 0, m, E => ⟨Int32.le_refl m, fun t h1 h2 => by omega⟩
  | r + 1, m, E => by
    rw [mostR_s]
    obtain ⟨h1, h2⟩ := most_ge r (if m < areN (passE E).1 1 then areN (passE E).1 1 else m) (passE E).1
    have h3 : m ≤ (if m < areN (passE E).1 1 then areN (passE E).1 1 else m) ∧ areN (passE E).1 1 ≤ (if m < areN (passE E).1 1 then areN (passE E).1 1 else m) := by
      by_cases q : m < areN (passE E).1 1
      · rw [if_pos q]; exact ⟨Int32.le_of_lt q, Int32.le_refl _⟩
      · rw [if_neg q]; exact ⟨Int32.le_refl _, Int32.not_lt.mp q⟩
    refine ⟨Int32.le_trans h3.1 h1, fun t ht1 ht2 => ?_⟩
    by_cases z : t = 1
    · rw [z]; exact Int32.le_trans h3.2 h1
    · have := h2 (t - 1) (by omega) (by omega)
      rw [passN_c1, show t - 1 + 1 = t by omega] at this
      exact this
theorem most_spec (E : ES) {k : Nat} (hk : k ≤ 200) : areN (passN k E) 1 ≤ mostR 200 (areN E 1) E := by
  obtain ⟨h1, h2⟩ := most_ge 200 (areN E 1) E
  by_cases z : k = 0
  · rw [z]; exact h1
  · exact h2 k (by omega) hk
