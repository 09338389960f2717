variable {nn : Nat}
/-! ===== all drops together: none comes from nowhere; none is lost, as long as the store is not full ===== -/
def usT (E : ES) : Int := sumI (cnt E) (usI E)
def allI (E : ES) : Int := totE E + usT E
theorem us_same {E E' : ES} (hc : cnt E' = cnt E) (h5 : ∀ i, eF E' i 5 = eF E i 5) : usT E' = usT E := by
  unfold usT
  rw [hc]
  exact sumI_eq (cnt E) (fun i _ => by unfold usI; rw [h5])
theorem tot_0 {T : Nat} {E : ES} (hb : bndE T E) : 0 ≤ totE E ∧ (eS E 0).toInt ≤ totE E := by
  obtain ⟨⟨h1, h2⟩, h3, h4⟩ := bnd_iff.mp hb
  have := sumI_0 (f := fun i => (eF E i 4).toInt) (cnt E) (fun i hi => (h3 i hi).2)
  unfold totE
  omega
theorem tot_come {T i : Nat} {E : ES} (hT : T ≤ 1000000000) (hb : bndE T E) (hi : i < cnt E) : totE (comeS i E) = totE E := by
  unfold comeS
  by_cases q : eF E i 6 = 0 ∧ 21 ≤ eS E 1 - eF E i 3
  · rw [if_pos q]
    obtain ⟨⟨h1, h2⟩, h3, h4⟩ := bnd_iff.mp hb
    have p := port_b (E := E) h1 h2
    have hh := bnd_h hb hT hi
    have e1 := ti_add (a := eF E i 4) (b := portE E) (by omega) (by omega)
    have e2 := ti_sub (a := eS E 0) (b := portE E) (by omega) (by omega)
    have c1 : cnt (sF E i 6 1) = cnt E := cnt_sF _ _ _ _
    have t1 : totE (sF E i 6 1) = totE E := by
      unfold totE
      rw [cnt_sF, eS_sF, sumI_eq (g := fun i => (eF E i 4).toInt) (cnt E) (fun j hj => by rw [eF_sF, if_neg (by omega)])]
    rw [tot_sS0, tot_sF4 (by rw [c1]; exact hi), t1, e2, e1, eS_sF, eS_sF, eF_sF, if_neg (by omega)]
    omega
  · rw [if_neg q]
theorem all_come {T i : Nat} {E : ES} (hT : T ≤ 1000000000) (h : wE T E) (hi : i < cnt E) : allI (comeS i E) = allI E := by
  obtain ⟨h0, T', h1, h2, h3⟩ := h
  have h4 := sumI_0 (f := usI E) (cnt E) h3
  unfold allI
  rw [tot_come (T := T') (by omega) h1 hi, us_same (sameE_cnt (same_comeS i E)) (come_5 i E)]
theorem all_drink {T i : Nat} {p : ES × Int32} (hT : T ≤ 1000000000) (h : wE T p.1) (hi : i < cnt p.1) : allI (drinkS i p).1 = allI p.1 := by
  by_cases q : eF p.1 i 6 = 1
  · rw [drinkS_y q]
    obtain ⟨h0, T', h1, h2, h3⟩ := h
    obtain ⟨⟨b1, b2⟩, b3, b4⟩ := bnd_iff.mp h1
    have h4 := sumI_0 (f := usI p.1) (cnt p.1) h3
    have h5 := sumI_1 (f := usI p.1) (cnt p.1) hi h3
    have hh := bnd_h h1 (by omega) hi
    have u : 0 ≤ (useF p.1 i).toInt ∧ (useF p.1 i).toInt ≤ (eF p.1 i 4).toInt := use_b (b3 i hi).1 hh.1 (by omega)
    have e1 := ti_sub (a := eF p.1 i 4) (b := useF p.1 i) (by omega) (by omega)
    have hu0 := h3 i hi
    have e2 : (eF p.1 i 5 + useF p.1 i).toInt = usI p.1 i + (useF p.1 i).toInt := ti_add (by show -2147483648 ≤ usI p.1 i + _; omega) (by show usI p.1 i + _ < 2147483648; omega)
    have t1 := tot_sF4 (E := p.1) (v := eF p.1 i 4 - useF p.1 i) hi
    have hus : ∀ j, usI (sF (sF p.1 i 4 (eF p.1 i 4 - useF p.1 i)) i 5 (eF p.1 i 5 + useF p.1 i)) j = if j = i then usI p.1 i + (useF p.1 i).toInt else usI p.1 j := by
      intro j
      have e : eF (sF (sF p.1 i 4 (eF p.1 i 4 - useF p.1 i)) i 5 (eF p.1 i 5 + useF p.1 i)) j 5 = if j = i then eF p.1 i 5 + useF p.1 i else eF p.1 j 5 := by
        rw [eF_sF]
        by_cases z : j = i
        · rw [if_pos ⟨z, rfl⟩, if_pos z]
        · rw [if_neg (fun y => z y.1), if_neg z, eF_sF, if_neg (by omega)]
      show (eF _ j 5).toInt = _
      rw [e]
      by_cases z : j = i
      · rw [if_pos z, if_pos z]; exact e2
      · rw [if_neg z, if_neg z]; rfl
    have t2 : totE (sF (sF p.1 i 4 (eF p.1 i 4 - useF p.1 i)) i 5 (eF p.1 i 5 + useF p.1 i)) = totE (sF p.1 i 4 (eF p.1 i 4 - useF p.1 i)) := by
      unfold totE
      rw [cnt_sF, eS_sF, sumI_eq (cnt (sF p.1 i 4 (eF p.1 i 4 - useF p.1 i))) (fun j hj => by rw [eF_sF, if_neg (by omega)])]
    unfold allI
    rw [t2, t1, e1]
    unfold usT
    show _ + sumI (cnt p.1) _ = _
    rw [sumI_eq (cnt p.1) (fun j _ => hus j), sumI_u (cnt p.1) hi]
    omega
  · rw [drinkS_n q]
theorem tot_beq {T d : Nat} {E : ES} (hT : T ≤ 1000000000) (hn : cnt E ≤ 10) (hb : bndE T E) (hd : d < cnt E) (h6 : eF E d 6 = 2) (h9 : totE E < 9999) : totE (beqE E d) = totE E := by
  obtain ⟨⟨h1, h2⟩, h3, h4⟩ := bnd_iff.mp hb
  obtain ⟨m, m1, m2, m3⟩ := live_b E d (cnt E) hn
  have hl : liveN E (nI d) = nI m := m2
  have hh := bnd_h hb hT hd
  have h1t := sumI_1 (f := fun i => (eF E i 4).toInt) (cnt E) hd (fun i hi => (h3 i hi).2)
  have ml : (nI m).toInt = m := nI_toInt (by omega)
  have e : 0 ≤ (eachE E d).toInt ∧ (eachE E d).toInt * m ≤ (eF E d 4).toInt ∧ (eachE E d).toInt ≤ (eF E d 4).toInt := by
    unfold eachE
    rw [hl]
    by_cases q : 0 < nI m
    · rw [if_pos q]
      rw [lt_ti, ti_0, ml] at q
      obtain ⟨q1, q2, q3⟩ := ti_div (a := eF E d 4) (b := nI m) hh.1 (by rw [ml]; exact q)
      rw [q1, ml] at *
      exact ⟨q2, Int.ediv_mul_le _ (by omega), q3⟩
    · rw [if_neg q, ti_0]
      exact ⟨Int.le_refl 0, by rw [Int.zero_mul]; exact hh.1, hh.1⟩
  obtain ⟨e1, e2, e3⟩ := e
  have emm : 0 ≤ (eachE E d).toInt * m := Int.mul_nonneg e1 (by omega)
  obtain ⟨g1, g2, g3_, g4⟩ := giveN_f E d (eachE E d) (cnt E)
  have gc : cnt (forN (cnt E) (giveS d (eachE E d)) E) = cnt E := congrArg Int32.toNatClampNeg (g1 4)
  generalize hE' : forN (cnt E) (giveS d (eachE E d)) E = E' at *
  have gd : eF E' d 4 = eF E d 4 := by rw [g4, if_neg (fun z => z.2.2 h6)]
  have gi : ∀ i, i < cnt E → (eF E' i 4).toInt = (eF E i 4).toInt + (eachE E d).toInt * getI E d i := by
    intro i hi
    rw [g4]
    unfold getI
    have hhi := bnd_h hb hT hi
    by_cases q : getP E d i
    · rw [if_pos ⟨hi, q⟩, if_pos q, ti_add (by omega) (by omega)]; omega
    · rw [if_neg (fun z => q z.2), if_neg q]; omega
  have tE' : totE E' = totE E + (eachE E d).toInt * m := by
    unfold totE
    rw [gc, g1, sumI_eq (cnt E) gi, sumI_a, sumI_m, m3]
    omega
  have es : (eF E d 4 - eachE E d * liveN E (nI d)).toInt = (eF E d 4).toInt - (eachE E d).toInt * m := by
    rw [hl]
    have em : (eachE E d * nI m).toInt = (eachE E d).toInt * m := by
      rw [ti_mul (by rw [ml]; omega) (by rw [ml]; omega), ml]
    rw [ti_sub (by omega) (by omega), em]
  have ea : (eS E 0 + (eF E d 4 - eachE E d * liveN E (nI d))).toInt = (eS E 0).toInt + ((eF E d 4).toInt - (eachE E d).toInt * m) := by
    rw [ti_add (by omega) (by omega), es]
  have hsum : (eS E 0).toInt + (eF E d 4).toInt ≤ totE E := by unfold totE; omega
  have ec : capS (eS E 0 + (eF E d 4 - eachE E d * liveN E (nI d))) = eS E 0 + (eF E d 4 - eachE E d * liveN E (nI d)) := by
    unfold capS
    rw [if_pos (by rw [lt_ti, ti_9999, ea]; omega)]
  unfold beqE
  rw [hE', ec, tot_sS0, tot_sF4 (by rw [gc]; exact hd), tE', gd, ti_0, eS_sF, g1, ea]
  omega
theorem all_die {T i : Nat} {E : ES} (hT : T ≤ 1000000000) (h : wE T E) (hi : i < cnt E) (h9 : allI E < 9999) : allI (dieS i E) = allI E := by
  obtain ⟨h0, T', h1, h2, h3⟩ := h
  have h4 := sumI_0 (f := usI E) (cnt E) h3
  have hu := us_same (E' := dieS i E) (E := E) (sameE_cnt (same_dieS i E)) (die_5 i E)
  unfold allI at *
  rw [hu]
  have h5 : 0 ≤ usT E := h4
  unfold dieS
  by_cases q : eF E i 6 = 1 ∧ 70 ≤ eS E 1 - eF E i 3
  · rw [if_pos q]
    have t1 : totE (sF E i 6 2) = totE E := by
      unfold totE
      rw [cnt_sF, eS_sF, sumI_eq (g := fun i => (eF E i 4).toInt) (cnt E) (fun j hj => by rw [eF_sF, if_neg (by omega)])]
    have b6 : bndE T' (sF E i 6 2) := bnd_sF h1 (by omega) (by omega)
    have tb := tot_beq (T := T') (E := sF E i 6 2) (d := i) (by omega) h0 b6 hi (by rw [eF_sF, if_pos ⟨rfl, rfl⟩]) (by rw [t1]; omega)
    rw [tb, t1]
  · rw [if_neg q]
theorem all_pass {T : Nat} {E : ES} (hT : T ≤ 1000000000) (h : wE T E) (h9 : allI E < 9999) : allI (passE E).1 = allI E := by
  have a1 : wE T (comeE E) ∧ cnt (comeE E) = cnt E ∧ allI (comeE E) = allI E := forN_P (P := fun E' => wE T E' ∧ cnt E' = cnt E ∧ allI E' = allI E) ⟨h, rfl, rfl⟩ (cnt E) (fun i E' hi q => ⟨wE_come hT q.1 (by rw [q.2.1]; exact hi), by rw [sameE_cnt (same_comeS i E')]; exact q.2.1, by rw [all_come hT q.1 (by rw [q.2.1]; exact hi)]; exact q.2.2⟩)
  have a2 : wE T (drinkE (comeE E)).1 ∧ cnt (drinkE (comeE E)).1 = cnt E ∧ allI (drinkE (comeE E)).1 = allI E := by
    generalize comeE E = C at *
    exact forN_P (P := fun p : ES × Int32 => wE T p.1 ∧ cnt p.1 = cnt E ∧ allI p.1 = allI E) (s := (C, 0)) a1 (cnt C) (fun i p hi q => ⟨wE_drink hT q.1 (by rw [q.2.1, ← a1.2.1]; exact hi), by rw [sameE_cnt (same_drinkS i p)]; exact q.2.1, by rw [all_drink hT q.1 (by rw [q.2.1, ← a1.2.1]; exact hi)]; exact q.2.2⟩)
  have a3 : wE T (dieE (drinkE (comeE E)).1) ∧ cnt (dieE (drinkE (comeE E)).1) = cnt E ∧ allI (dieE (drinkE (comeE E)).1) = allI E := by
    generalize (drinkE (comeE E)).1 = C at *
    exact forN_P (P := fun E' => wE T E' ∧ cnt E' = cnt E ∧ allI E' = allI E) (s := C) a2 (cnt C) (fun i E' hi q => ⟨wE_die hT q.1 (by rw [q.2.1, ← a2.2.1]; exact hi), by rw [sameE_cnt (same_dieS i E')]; exact q.2.1, by rw [all_die hT q.1 (by rw [q.2.1, ← a2.2.1]; exact hi) (by rw [q.2.2]; exact h9)]; exact q.2.2⟩)
  rw [passE_1, ← a3.2.2]
  generalize dieE (drinkE (comeE E)).1 = C at *
  unfold tickE
  split
  · unfold allI totE usT
    rw [cnt_sS _ _ _ (by omega), eS_sS, if_neg (by omega)]
    rfl
  · rfl
theorem all_passN {T : Nat} {E : ES} (hT : T ≤ 1000000000) (h : wE T E) (h9 : allI E < 9999) : ∀ n, allI (passN n E) = allI E
  | 0 => rfl
  | n + 1 => by rw [passN_n, all_pass hT (wE_passN hT h n) (by rw [all_passN hT h h9 n]; exact h9), all_passN hT h h9 n]
theorem wE_all {T : Nat} {E : ES} (h : wE T E) : wE (allI E).toNat E ∧ 0 ≤ allI E ∧ allI E ≤ T ∧ 0 ≤ usT E := by
  obtain ⟨h0, T', h1, h2, h3⟩ := h
  have h4 : 0 ≤ usT E := sumI_0 (f := usI E) (cnt E) h3
  have t0 := tot_0 h1
  have t1 : totE E ≤ T' := h1.2.2
  have h2' : (T' : Int) + usT E ≤ T := h2
  have ea : allI E = totE E + usT E := rfl
  refine ⟨⟨h0, (totE E).toNat, ⟨h1.1, h1.2.1, by omega⟩, ?_, h3⟩, by omega, by omega, h4⟩
  show ((totE E).toNat : Int) + usT E ≤ ((allI E).toNat : Int)
  omega
theorem all_le {T : Nat} {E : ES} (hT : T ≤ 1000000000) (h : wE T E) (n : Nat) : allI (passN n E) ≤ allI E := by
  obtain ⟨h1, h2, h3, h4⟩ := wE_all h
  have h5 := wE_passN (T := (allI E).toNat) (by omega) h1 n
  have h6 := (wE_all h5).2.2.1
  omega
/-- sums of fields, as ints -/
theorem sumF_t {E : ES} {k : Nat} (h0 : ∀ i, i < cnt E → 0 ≤ (eF E i k).toInt) (hs : sumI (cnt E) (fun i => (eF E i k).toInt) ≤ 1000000000) : (sumF E k).toInt = sumI (cnt E) (fun i => (eF E i k).toInt) := by
  have key : ∀ n, n ≤ cnt E → (forN n (fun i a => a + eF E i k) (0 : Int32)).toInt = sumI n (fun i => (eF E i k).toInt) ∧ sumI n (fun i => (eF E i k).toInt) ≤ sumI (cnt E) (fun i => (eF E i k).toInt) := by
    intro n
    induction n with
    | zero => intro _; exact ⟨rfl, sumI_0 _ h0⟩
    | succ n ih =>
      intro hn
      obtain ⟨i1, i2⟩ := ih (by omega)
      have hm : ∀ d m, m + d = cnt E → sumI m (fun i => (eF E i k).toInt) ≤ sumI (cnt E) (fun i => (eF E i k).toInt) := by
        intro d
        induction d with
        | zero => intro m e; rw [show m = cnt E by omega]; exact Int.le_refl _
        | succ d ihd =>
          intro m e
          have := ihd (m + 1) (by omega)
          rw [sumI_s] at this
          have := h0 m (by omega)
          omega
      have h1 := hm (cnt E - (n + 1)) (n + 1) (by omega)
      have h2 := h0 n (by omega)
      have h3 := sumI_0 (f := fun i => (eF E i k).toInt) n (fun i hi => h0 i (by omega))
      rw [sumI_s] at h1
      rw [forN_s, sumI_s]
      refine ⟨?_, h1⟩
      rw [ti_add (by rw [i1]; omega) (by rw [i1]; omega), i1]
  exact (key (cnt E) (Nat.le_refl _)).1
theorem sum4_t {T : Nat} {E : ES} (hT : T ≤ 1000000000) (h : wE T E) : (sumF E 4).toInt = totE E - (eS E 0).toInt ∧ 0 ≤ (sumF E 4).toInt := by
  obtain ⟨h0, T', h1, h2, h3⟩ := h
  have h4 := sumI_0 (f := usI E) (cnt E) h3
  obtain ⟨⟨b1, b2⟩, b3, b4⟩ := bnd_iff.mp h1
  have e1 : totE E = (eS E 0).toInt + sumI (cnt E) (fun i => (eF E i 4).toInt) := rfl
  have h5 := sumI_0 (f := fun i => (eF E i 4).toInt) (cnt E) (fun i hi => (b3 i hi).2)
  rw [sumF_t (fun i hi => (b3 i hi).2) (by omega)]
  omega
theorem sum5_t {T : Nat} {E : ES} (hT : T ≤ 1000000000) (h : wE T E) : (sumF E 5).toInt = usT E := by
  obtain ⟨h0, T', h1, h2, h3⟩ := h
  have h4 := sumI_0 (f := usI E) (cnt E) h3
  have e1 : usT E = sumI (cnt E) (usI E) := rfl
  have h5 := sumI_0 (f := fun i => (eF E i 5).toInt) (cnt E) h3
  exact sumF_t h3 (by show sumI (cnt E) (usI E) ≤ _; omega)
