variable {nn : Nat}
/-! ===== what is used in all is no more than there is ===== -/
def usI (E : ES) (i : Nat) : Int := (eF E i 5).toInt
def wE (T : Nat) (E : ES) : Prop := cnt E ≤ 10 ∧ ∃ T' : Nat, bndE T' E ∧ (T' : Int) + sumI (cnt E) (usI E) ≤ T ∧ ∀ i, i < cnt E → 0 ≤ usI E i
theorem wE_b {T : Nat} {E : ES} (h : wE T E) {i : Nat} (hi : i < cnt E) : 0 ≤ usI E i ∧ usI E i ≤ T := by
  obtain ⟨-, T', -, h2, h3⟩ := h
  have := sumI_1 (f := usI E) (cnt E) hi h3
  exact ⟨h3 i hi, by omega⟩
theorem wE_same {T : Nat} {E E' : ES} (h : wE T E) (hc : cnt E' = cnt E) (h5 : ∀ i, eF E' i 5 = eF E i 5) (hb : ∀ T', T' ≤ T → bndE T' E → bndE T' E') : wE T E' := by
  obtain ⟨h0, T', h1, h2, h3⟩ := h
  have hu : ∀ i, usI E' i = usI E i := fun i => congrArg Int32.toInt (h5 i)
  have h4 := sumI_0 (f := usI E) (cnt E) h3
  refine ⟨by rw [hc]; exact h0, T', hb T' (by omega) h1, ?_, fun i hi => ?_⟩
  · rw [hc, sumI_eq (g := usI E) (cnt E) (fun i _ => hu i)]; exact h2
  · rw [hu]; exact h3 i (by rw [← hc]; exact hi)
theorem come_5 (i : Nat) (E : ES) (j : Nat) : eF (comeS i E) j 5 = eF E j 5 := by
  unfold comeS
  split
  · rw [eF_sS, eF_sF, if_neg (by omega), eF_sF, if_neg (by omega)]
  · rfl
theorem die_5 (i : Nat) (E : ES) (j : Nat) : eF (dieS i E) j 5 = eF E j 5 := by
  unfold dieS
  split
  · unfold beqE
    rw [eF_sS, eF_sF, if_neg (by omega), (giveN_f _ _ _ _).2.2.1 j 5 (by omega), eF_sF, if_neg (by omega)]
  · rfl
theorem wE_drink {T i : Nat} {p : ES × Int32} (hT : T ≤ 1000000000) (h : wE T p.1) (hi : i < cnt p.1) : wE T (drinkS i p).1 := by
  by_cases q : eF p.1 i 6 = 1
  · rw [drinkS_y q]
    obtain ⟨h0, T', h1, h2, h3⟩ := h
    obtain ⟨⟨b1, b2⟩, b3, b4⟩ := bnd_iff.mp h1
    have h4 := sumI_0 (f := usI p.1) (cnt p.1) h3
    have h5 := sumI_1 (f := usI p.1) (cnt p.1) hi h3
    have hh := bnd_h h1 (by omega) hi
    have u : 0 ≤ (useF p.1 i).toInt ∧ (useF p.1 i).toInt ≤ (eF p.1 i 4).toInt := use_b (b3 i hi).1 hh.1 (by omega)
    have e1 := ti_sub (a := eF p.1 i 4) (b := useF p.1 i) (by omega) (by omega)
    have hu0 := h3 i hi
    have e2 : (eF p.1 i 5 + useF p.1 i).toInt = usI p.1 i + (useF p.1 i).toInt := ti_add (by show -2147483648 ≤ usI p.1 i + _; omega) (by show usI p.1 i + _ < 2147483648; omega)
    have t1 := tot_sF4 (E := p.1) (v := eF p.1 i 4 - useF p.1 i) hi
    have b' : bndE T' (sF p.1 i 4 (eF p.1 i 4 - useF p.1 i)) := bnd_has h1 hi (by omega) (by omega)
    have bb : bndE (T' - (useF p.1 i).toInt.toNat) (sF p.1 i 4 (eF p.1 i 4 - useF p.1 i)) := ⟨b'.1, b'.2.1, by omega⟩
    have hus : ∀ j, usI (sF (sF p.1 i 4 (eF p.1 i 4 - useF p.1 i)) i 5 (eF p.1 i 5 + useF p.1 i)) j = if j = i then usI p.1 i + (useF p.1 i).toInt else usI p.1 j := by
      intro j
      have e : eF (sF (sF p.1 i 4 (eF p.1 i 4 - useF p.1 i)) i 5 (eF p.1 i 5 + useF p.1 i)) j 5 = if j = i then eF p.1 i 5 + useF p.1 i else eF p.1 j 5 := by
        rw [eF_sF]
        by_cases z : j = i
        · rw [if_pos ⟨z, rfl⟩, if_pos z]
        · rw [if_neg (fun y => z y.1), if_neg z, eF_sF, if_neg (by omega)]
      show (eF _ j 5).toInt = _
      rw [e]
      by_cases z : j = i
      · rw [if_pos z, if_pos z]; exact e2
      · rw [if_neg z, if_neg z]; rfl
    refine ⟨h0, T' - (useF p.1 i).toInt.toNat, bnd_sF bb (by omega) (by omega), ?_, fun j hj => ?_⟩
    · show _ + sumI (cnt p.1) _ ≤ _
      rw [sumI_eq (cnt p.1) (fun j _ => hus j), sumI_u (cnt p.1) hi]
      omega
    · show 0 ≤ usI _ j
      rw [hus]
      split
      · omega
      · exact h3 j hj
  · rw [drinkS_n q]; exact h
theorem wE_come {T i : Nat} {E : ES} (hT : T ≤ 1000000000) (h : wE T E) (hi : i < cnt E) : wE T (comeS i E) :=
  wE_same h (sameE_cnt (same_comeS i E)) (come_5 i E) (fun T' ht hb => bnd_comeS (n := 0) (by omega) hb hi)
theorem wE_die {T i : Nat} {E : ES} (hT : T ≤ 1000000000) (h : wE T E) (hi : i < cnt E) : wE T (dieS i E) :=
  wE_same h (sameE_cnt (same_dieS i E)) (die_5 i E) (fun T' ht hb => bnd_dieS (by omega) h.1 hb hi)
theorem wE_pass {T : Nat} {E : ES} (hT : T ≤ 1000000000) (h : wE T E) : wE T (passE E).1 := by
  have a1 : wE T (comeE E) ∧ cnt (comeE E) = cnt E := forN_P (P := fun E' => wE T E' ∧ cnt E' = cnt E) ⟨h, rfl⟩ (cnt E) (fun i E' hi q => ⟨wE_come hT q.1 (by rw [q.2]; exact hi), by rw [sameE_cnt (same_comeS i E')]; exact q.2⟩)
  have a2 : wE T (drinkE (comeE E)).1 ∧ cnt (drinkE (comeE E)).1 = cnt E := by
    generalize comeE E = C at *
    exact forN_P (P := fun p : ES × Int32 => wE T p.1 ∧ cnt p.1 = cnt E) (s := (C, 0)) a1 (cnt C) (fun i p hi q => ⟨wE_drink hT q.1 (by rw [q.2, ← a1.2]; exact hi), by rw [sameE_cnt (same_drinkS i p)]; exact q.2⟩)
  have a3 : wE T (dieE (drinkE (comeE E)).1) ∧ cnt (dieE (drinkE (comeE E)).1) = cnt E := by
    generalize (drinkE (comeE E)).1 = C at *
    exact forN_P (P := fun E' => wE T E' ∧ cnt E' = cnt E) (s := C) a2 (cnt C) (fun i E' hi q => ⟨wE_die hT q.1 (by rw [q.2, ← a2.2]; exact hi), by rw [sameE_cnt (same_dieS i E')]; exact q.2⟩)
  rw [passE_1]
  generalize dieE (drinkE (comeE E)).1 = C at *
  unfold tickE
  split
  · exact wE_same a3.1 (cnt_sS _ _ _ (by omega)) (fun i => rfl) (fun T' _ hb => bnd_sS hb (by omega) (by omega))
  · exact a3.1
theorem wE_passN {T : Nat} {E : ES} (hT : T ≤ 1000000000) (h : wE T E) : ∀ n, wE T (passN n E)
  | 0 => h
  | n + 1 => by rw [passN_n]; exact wE_pass hT (wE_passN hT h n)
theorem wE_0 {T : Nat} {E : ES} (hg : goodE T E) (h5 : ∀ i, i < cnt E → eF E i 5 = 0) : wE T E := by
  have hu : ∀ i, i < cnt E → usI E i = 0 := fun i hi => by unfold usI; rw [h5 i hi]; decide
  have h0 : sumI (cnt E) (usI E) = 0 := by
    rw [sumI_eq (g := fun _ => 0) (cnt E) hu]
    have : ∀ n, sumI n (fun _ => 0) = 0 := by
      intro n
      induction n with
      | zero => rfl
      | succ n ih => rw [sumI_s, ih]; rfl
    exact this _
  exact ⟨hg.1.2.1, T, hg.2.2, by omega, fun i hi => by rw [hu i hi]; exact Int.le_refl 0⟩
theorem leastR_b {E : ES} {T : Nat} (h : ∀ i, i < cnt E → 0 ≤ usI E i ∧ usI E i ≤ T) (hp : 0 < cnt E) : ∀ n, n ≤ cnt E → 0 ≤ (leastR E n).toInt ∧ (leastR E n).toInt ≤ T ∧ ∀ i, i < n → (leastR E n).toInt ≤ usI E i
  | 0, _ => ⟨(h 0 hp).1, (h 0 hp).2, fun i hi => absurd hi (Nat.not_lt_zero i)⟩
  | n + 1, hn => by
    obtain ⟨h1, h2, h3⟩ := leastR_b h hp n (by omega)
    have hu := h n (by omega)
    rw [leastR_s]
    by_cases q : eF E n 5 < leastR E n
    · rw [if_pos q]
      rw [lt_ti] at q
      refine ⟨hu.1, hu.2, fun i hi => ?_⟩
      by_cases z : i = n
      · rw [z]; exact Int.le_refl _
      · have := h3 i (by omega)
        omega
    · rw [if_neg q]
      rw [lt_ti] at q
      refine ⟨h1, h2, fun i hi => ?_⟩
      by_cases z : i = n
      · rw [z]; unfold usI; omega
      · exact h3 i (by omega)
theorem unf_b {E : ES} {T : Nat} (hT : T ≤ 1000000000) (ho : okE E) (h : wE T E) : 0 ≤ (unfairE E).toInt ∧ (unfairE E).toInt ≤ T := by
  unfold unfairE
  by_cases q : eS E 4 = 0
  · rw [if_pos q, ti_0]; omega
  · rw [if_neg q]
    have hp : 0 < cnt E := by
      by_cases z : cnt E = 0
      · exact absurd (by rw [ho.1, z]; rfl) q
      · omega
    have hb : ∀ i, i < cnt E → 0 ≤ usI E i ∧ usI E i ≤ T := fun i hi => wE_b h hi
    have hl := leastR_b hb hp (cnt E) (Nat.le_refl _)
    have e1 : leastU E = leastR E (cnt E) := rfl
    have e2 : happyN E = happyR E (cnt E) := rfl
    have hh : happyR E (cnt E) < cnt E := by
      have := happyR_lt E (cnt E - 1)
      rw [show cnt E - 1 + 1 = cnt E by omega] at this
      exact this
    rw [e1, e2]
    have h1 := hb _ hh
    have h2 := hl.2.2 _ hh
    unfold usI at h1 h2
    rw [ti_sub (by omega) (by omega)]
    omega
