variable {nn : Nat}
/-! ===== what the law adds up ===== -/
theorem la_0 (E : ES) (x k : Nat) : laterE E x k 0 = eF (passN k (supE E)) x 4 := if_pos rfl
theorem la_1 (E : ES) (x k : Nat) : laterE E x k 1 = eF (passN k (supE E)) x 5 := by
  unfold laterE
  rw [if_neg (by decide), if_pos rfl]
theorem la_2 (E : ES) (x k : Nat) : laterE E x k 2 = eF (passN k (supE E)) x 6 := by
  unfold laterE
  rw [if_neg (by decide), if_neg (by decide)]
theorem ah_0 (E : ES) (k : Nat) : aheadE E k 0 = eS (passN k (supE E)) 0 := if_pos rfl
theorem ah_1 (E : ES) (k : Nat) : aheadE E k 1 = areN (passN k (supE E)) 1 := by
  unfold aheadE
  rw [if_neg (by decide), if_pos rfl]
theorem ah_2 (E : ES) (k : Nat) : aheadE E k 2 = sumF (passN k (supE E)) 4 := by
  unfold aheadE
  rw [if_neg (by decide), if_neg (by decide)]
def thN (t : Int32) (P : ES) (x : Nat) : Int32 := forN x (fun i a => a + eF P i 5) t
def haN (P : ES) (x : Nat) : Int32 := forN x (fun i a => a + eF P i 4) 0
def mxN (P : ES) (x : Nat) : Int32 := forN x (fun i a => if a < eF P i 5 then eF P i 5 else a) 0
def lwN (P : ES) (x : Nat) : Int32 := forN x (fun i a => if eF P i 5 < a then eF P i 5 else a) 99999
theorem thN_s (t : Int32) (P : ES) (x : Nat) : thN t P (x + 1) = thN t P x + eF P x 5 := rfl
theorem haN_s (P : ES) (x : Nat) : haN P (x + 1) = haN P x + eF P x 4 := rfl
theorem mxN_s (P : ES) (x : Nat) : mxN P (x + 1) = if mxN P x < eF P x 5 then eF P x 5 else mxN P x := rfl
theorem lwN_s (P : ES) (x : Nat) : lwN P (x + 1) = if eF P x 5 < lwN P x then eF P x 5 else lwN P x := rfl
theorem thN_0 (t : Int32) (P : ES) : thN t P 0 = t := rfl
theorem haN_0 (P : ES) : haN P 0 = 0 := rfl
theorem mxN_0 (P : ES) : mxN P 0 = 0 := rfl
theorem lwN_0 (P : ES) : lwN P 0 = 99999 := rfl
theorem th_add (t : Int32) (P : ES) : ∀ x, thN t P x = t + thN 0 P x
  | 0 => (Int32.add_zero t).symm
  | x + 1 => by rw [thN_s, thN_s, th_add t P x, Int32.add_assoc]
theorem wld_cnt {E : ES} (k : Nat) : cnt (passN k (supE E)) = cnt E := (sameE_cnt (same_passN k _)).trans (cnt_sup E)
theorem ha_all {E : ES} (k : Nat) : haN (passN k (supE E)) (cnt E) = aheadE E k 2 := by
  rw [ah_2]
  unfold haN sumF
  rw [wld_cnt]
theorem sup_tot {E : ES} : totE (supE E) = totE E ∧ (wldE E → usT (supE E) = 0) := by
  have h4 : ∀ i k, k ≠ 5 → eF (supE E) i k = eF E i k := fun i k hk => by
    show eF (forgetE (cnt E) E) i k = _
    rw [fg_f, if_neg (by omega)]
  have hS : ∀ k, eS (supE E) k = eS E k := fun k => congrFun (fg_s E (cnt E)).1 k
  have hc : cnt (supE E) = cnt E := cnt_sup E
  refine ⟨?_, fun h => ?_⟩
  · unfold totE
    rw [hc, hS, sumI_eq (cnt E) (fun i _ => by rw [h4 i 4 (by omega)])]
  · have h5 := (wld_sup h).2
    unfold usT
    rw [hc, sumI_eq (g := fun _ => 0) (cnt E) (fun i hi => by unfold usI; rw [h5 i hi]; decide)]
    have : ∀ n, sumI n (fun _ => 0) = 0 := by
      intro n
      induction n with
      | zero => rfl
      | succ n ih => rw [sumI_s, ih]; rfl
    exact this _
def allE (E : ES) : Int32 := eS E 0 + sumF E 4 + sumF E 5
/-- no drop comes from nowhere -/
theorem cons_spec {E : ES} (h : wldE E) (k : Nat) : ¬ allE E < thN (aheadE E k 0 + aheadE E k 2 + sumF E 5) (passN k (supE E)) (cnt E) ∧ (allE E < 9000 → thN (aheadE E k 0 + aheadE E k 2 + sumF E 5) (passN k (supE E)) (cnt E) = allE E) := by
  obtain ⟨s1, s2⟩ := wld_sup h
  have p1 := wld_pass s1 k
  obtain ⟨t1, t2⟩ := sup_tot (E := E)
  have t2 := t2 h
  have a1 := all_le (T := 9999) (by omega) s1.2.2 k
  have w1 := wE_all h.2.2
  have w2 := wE_all p1.2.2
  obtain ⟨c1, c2⟩ := sum4_t (T := 9999) (by omega) h.2.2
  obtain ⟨d1, d2⟩ := sum4_t (T := 9999) (by omega) p1.2.2
  have c3 := sum5_t (T := 9999) (by omega) h.2.2
  have d3 := sum5_t (T := 9999) (by omega) p1.2.2
  have i1 := inv_0 (wld_good h).2.2
  have i2 := inv_0 (wld_good p1).2.2
  have e1 : allI E = totE E + usT E := rfl
  have e2 : allI (passN k (supE E)) = totE (passN k (supE E)) + usT (passN k (supE E)) := rfl
  have e3 : allI (supE E) = totE (supE E) + usT (supE E) := rfl
  have v0 : thN 0 (passN k (supE E)) (cnt E) = sumF (passN k (supE E)) 5 := by
    unfold thN sumF
    rw [wld_cnt]
  have q1 : (allE E).toInt = allI E := by
    unfold allE
    have z1 := ti_add (a := eS E 0) (b := sumF E 4) (by omega) (by omega)
    rw [ti_add (by omega) (by omega), z1]
    omega
  have q2 : (thN (aheadE E k 0 + aheadE E k 2 + sumF E 5) (passN k (supE E)) (cnt E)).toInt = allI (passN k (supE E)) + usT E := by
    rw [th_add, v0, ah_0, ah_2]
    generalize passN k (supE E) = P at *
    have z1 := ti_add (a := eS P 0) (b := sumF P 4) (by omega) (by omega)
    have z2 := ti_add (a := eS P 0 + sumF P 4) (b := sumF E 5) (by omega) (by omega)
    rw [ti_add (by omega) (by omega), z2, z1]
    omega
  refine ⟨fun z => ?_, fun z => ?_⟩
  · rw [lt_ti, q1, q2] at z; omega
  · rw [lt_ti, q1] at z
    have z2 : (9000 : Int32).toInt = 9000 := by decide
    have a2 := all_passN (T := 9999) (by omega) s1.2.2 (by omega) k
    apply Int32.toInt_inj.mp
    rw [q1, q2]
    omega
theorem use_0 {E : ES} (h : wldE E) {i : Nat} (hi : i < cnt E) : 0 ≤ (eF E i 5).toInt ∧ (eF E i 5).toInt ≤ 9999 := wE_b h.2.2 hi
theorem has_0 {E : ES} (h : wldE E) {i : Nat} (hi : i < cnt E) : 0 ≤ (eF E i 4).toInt ∧ (eF E i 4).toInt ≤ 9999 := by
  have h1 := bnd_h (wld_good h).2.2 (by omega) hi
  have h2 := (inv_0 (wld_good h).2.2).1
  omega
theorem mx_happy {P : ES} (h : wldE P) : ∀ x, 0 < x → x ≤ cnt P → mxN P x = eF P (happyR P x) 5
  | 0, h0, _ => absurd h0 (Nat.lt_irrefl 0)
  | 1, _, hx => by
    obtain ⟨h1, h2⟩ := use_0 h (i := 0) (by omega)
    rw [mxN_s, happyR_s]
    have e0 : mxN P 0 = 0 := rfl
    have e1 : happyR P 0 = 0 := rfl
    rw [e0, e1, if_neg (lt_irr32 _)]
    by_cases q : 0 < eF P 0 5
    · rw [if_pos q]
    · rw [if_neg q]
      rw [lt_ti, ti_0] at q
      apply Int32.toInt_inj.mp
      rw [ti_0]; omega
  | x + 2, _, hx => by
    rw [mxN_s, happyR_s, mx_happy h (x + 1) (by omega) (by omega)]
    split <;> rfl
theorem lw_least {P : ES} (h : wldE P) : ∀ x, 0 < x → x ≤ cnt P → lwN P x = leastR P x
  | 0, h0, _ => absurd h0 (Nat.lt_irrefl 0)
  | 1, _, hx => by
    obtain ⟨h1, h2⟩ := use_0 h (i := 0) (by omega)
    rw [lwN_s, leastR_s]
    have e0 : lwN P 0 = 99999 := rfl
    have e1 : leastR P 0 = eF P 0 5 := rfl
    rw [e0, e1, if_neg (lt_irr32 _), if_pos (by rw [lt_ti, show (99999 : Int32).toInt = 99999 by decide]; omega)]
  | x + 2, _, hx => by
    rw [lwN_s, leastR_s, lw_least h (x + 1) (by omega) (by omega)]
theorem fair_is {P : ES} (h : wldE P) (h0 : 0 < cnt P) : unfairE P = mxN P (cnt P) - lwN P (cnt P) := by
  have n0 : ¬ eS P 4 = 0 := by rw [h.1.1]; exact nI_ne0 h0 (by have := h.1.2.1; omega)
  unfold unfairE
  rw [if_neg n0, mx_happy h _ h0 (Nat.le_refl _), lw_least h _ h0 (Nat.le_refl _)]
  rfl
theorem happyW {P : ES} (h0 : 0 < cnt P) : happyN P < cnt P := by
  have := happyR_lt P (cnt P - 1)
  rw [show cnt P - 1 + 1 = cnt P by omega] at this
  exact this
/-- who dies has nothing left -/
def deadP (d : Nat → Prop) (E : ES) : Prop := ∀ x, eF E x 6 = 2 → eF E x 4 = 0 ∨ d x
theorem dead_come {d : Nat → Prop} {i : Nat} {E : ES} (h : deadP d E) : deadP d (comeS i E) := by
  intro x
  unfold comeS
  by_cases q : eF E i 6 = 0 ∧ 21 ≤ eS E 1 - eF E i 3
  · rw [if_pos q, eF_sS, eF_sS, eF_sF, eF_sF, eF_sF, eF_sF, if_neg (by omega)]
    by_cases z : x = i
    · rw [if_pos ⟨z, rfl⟩]; intro w; exact absurd w (by decide)
    · rw [if_neg (fun y => z y.1), if_neg (fun y => z y.1), if_neg (fun y => z y.1)]; exact h x
  · rw [if_neg q]; exact h x
theorem dead_drink {d : Nat → Prop} {i : Nat} {p : ES × Int32} (h : deadP d p.1) : deadP d (drinkS i p).1 := by
  intro x
  by_cases q : eF p.1 i 6 = 1
  · rw [drinkS_y q]
    show eF (sF (sF p.1 i 4 _) i 5 _) x 6 = 2 → eF (sF (sF p.1 i 4 _) i 5 _) x 4 = 0 ∨ d x
    rw [eF_sF, if_neg (by omega), eF_sF, if_neg (by omega), eF_sF, if_neg (by omega), eF_sF]
    by_cases z : x = i
    · rw [z]; intro w; rw [q] at w; exact absurd w (by decide)
    · rw [if_neg (fun y => z y.1)]; exact h x
  · rw [drinkS_n q]; exact h x
theorem dead_die {d : Nat → Prop} {i : Nat} {E : ES} (h : deadP d E) : deadP d (dieS i E) := by
  intro x
  by_cases q : eF E i 6 = 1 ∧ 70 ≤ eS E 1 - eF E i 3
  · rw [die_y q]
    unfold beqE
    obtain ⟨g1, g2, g3_, g4⟩ := giveN_f (sF E i 6 2) i (eachE (sF E i 6 2) i) (cnt (sF E i 6 2))
    rw [eF_sS, eF_sS, eF_sF, eF_sF, if_neg (by omega), g3_ x 6 (by omega), g4]
    intro w
    by_cases z : x = i
    · rw [if_pos ⟨z, rfl⟩]; exact Or.inl rfl
    · rw [if_neg (fun y => z y.1), if_neg (fun y => y.2.2 w), eF_sF, if_neg (by omega)]
      rw [eF_sF, if_neg (fun y => z y.1)] at w
      exact h x w
  · rw [die_n q]; exact h x
theorem dead_pass {d : Nat → Prop} {E : ES} (h : deadP d E) : deadP d (passE E).1 := by
  have a1 : deadP d (comeE E) := forN_ind h (fun i s hs => dead_come hs) _
  have a2 : deadP d (drinkE (comeE E)).1 := forN_ind (P := fun p : ES × Int32 => deadP d p.1) a1 (fun i s hs => dead_drink hs) _
  have a3 : deadP d (dieE (drinkE (comeE E)).1) := forN_ind a2 (fun i s hs => dead_die hs) _
  rw [passE_1]
  generalize dieE (drinkE (comeE E)).1 = C at *
  unfold tickE
  split
  · exact a3
  · exact a3
theorem dead_spec (E : ES) (k x : Nat) (h : eF (passN k (supE E)) x 6 = 2) : eF (passN k (supE E)) x 4 = 0 ∨ eF E x 6 = 2 := by
  have h0 : deadP (fun x => eF E x 6 = 2) (supE E) := fun x hx => Or.inr (by
    have e : eF (supE E) x 6 = eF E x 6 := by
      show eF (forgetE (cnt E) E) x 6 = _
      rw [fg_f, if_neg (by omega)]
    exact e.symm.trans hx)
  have key : ∀ n, deadP (fun x => eF E x 6 = 2) (passN n (supE E)) := fun n => forN_ind (P := deadP _) h0 (fun _ _ hs => dead_pass hs) n
  exact key k x h
