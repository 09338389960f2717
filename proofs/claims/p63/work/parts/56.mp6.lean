variable {nn : Nat}
/-! ===== how much has been used till now doesn't count ===== -/
theorem passE_1 (E : ES) : (passE E).1 = tickE (dieE (drinkE (comeE E)).1) := by
  unfold passE
  dsimp only
theorem passE_2 (E : ES) : (passE E).2 = (drinkE (comeE E)).2 := by
  unfold passE
  dsimp only
theorem comeS_s (n : Nat) (E : ES) : forN (n + 1) comeS E = comeS n (forN n comeS E) := rfl
theorem drinkS_s (n : Nat) (p : ES × Int32) : forN (n + 1) drinkS p = drinkS n (forN n drinkS p) := rfl
theorem dieS_s (n : Nat) (E : ES) : forN (n + 1) dieS E = dieS n (forN n dieS E) := rfl
theorem drinkS_y {i : Nat} {p : ES × Int32} (q : eF p.1 i 6 = 1) : drinkS i p = (sF (sF p.1 i 4 (eF p.1 i 4 - useF p.1 i)) i 5 (eF p.1 i 5 + useF p.1 i), p.2 + useF p.1 i) := if_pos q
theorem drinkS_n {i : Nat} {p : ES × Int32} (q : ¬ eF p.1 i 6 = 1) : drinkS i p = p := if_neg q
def leastR (E : ES) (n : Nat) : Int32 := forN n (fun i a => if eF E i 5 < a then eF E i 5 else a) (eF E 0 5)
def happyR (E : ES) (n : Nat) : Nat := forN n (fun i f => if eF E f 5 < eF E i 5 then i else f) 0
theorem leastR_s (E : ES) (n : Nat) : leastR E (n + 1) = if eF E n 5 < leastR E n then eF E n 5 else leastR E n := rfl
theorem happyR_s (E : ES) (n : Nat) : happyR E (n + 1) = if eF E (happyR E n) 5 < eF E n 5 then n else happyR E n := rfl
theorem happyR_lt (E : ES) : ∀ n, happyR E (n + 1) < n + 1
  | 0 => by
    rw [happyR_s]
    split
    · omega
    · show 0 < 1; omega
  | n + 1 => by
    have := happyR_lt E n
    rw [happyR_s]
    split <;> omega
theorem lt_irr32 (x : Int32) : ¬ x < x := fun z => absurd (Int32.le_refl x) (Int32.not_le.mpr z)
def addU (u : Nat → Int32) (E : ES) : ES := (E.1, E.2.1, fun i k => if k = 5 then E.2.2 i k + u i else E.2.2 i k)
section
variable {u : Nat → Int32} {E : ES}
theorem eS_add (k : Nat) : eS (addU u E) k = eS E k := rfl
theorem eF_add {i k : Nat} (hk : k ≠ 5) : eF (addU u E) i k = eF E i k := if_neg hk
theorem eF_add5 (i : Nat) : eF (addU u E) i 5 = eF E i 5 + u i := by
  show (if (5 : Nat) = 5 then E.2.2 i 5 + u i else E.2.2 i 5) = _
  rw [if_pos rfl]; rfl
theorem cnt_add : cnt (addU u E) = cnt E := rfl
theorem add_sS (k : Nat) (v : Int32) : sS (addU u E) k v = addU u (sS E k v) := rfl
theorem add_sF {i k : Nat} (hk : k ≠ 5) (v : Int32) : sF (addU u E) i k v = addU u (sF E i k v) := by
  refine est_ext (fun _ => rfl) (fun _ => rfl) (fun i' k' => ?_)
  rw [eF_sF]
  by_cases q : k' = 5
  · subst q
    rw [if_neg (by omega), eF_add5, eF_add5, eF_sF, if_neg (by omega)]
  · rw [eF_add q, eF_add q, eF_sF]
theorem add_s5 {i : Nat} (v : Int32) : sF (addU u E) i 5 (v + u i) = addU u (sF E i 5 v) := by
  refine est_ext (fun _ => rfl) (fun _ => rfl) (fun i' k' => ?_)
  rw [eF_sF]
  by_cases q : k' = 5
  · subst q
    rw [eF_add5, eF_add5, eF_sF]
    by_cases z : i' = i
    · rw [if_pos ⟨z, rfl⟩, if_pos ⟨z, rfl⟩, z]
    · rw [if_neg (fun y => z y.1), if_neg (fun y => z y.1)]
  · rw [if_neg (fun y => q y.2), eF_add q, eF_add q, eF_sF, if_neg (fun y => q y.2)]
theorem are_add (w : Int32) : areN (addU u E) w = areN E w := forN_eq (cnt E) (fun i a hi => by rw [eF_add (by omega)])
theorem live_add (w : Int32) : liveN (addU u E) w = liveN E w := forN_eq (cnt E) (fun i a hi => by rw [eF_add (by omega), eF_add (by omega)])
theorem port_add : portE (addU u E) = portE E := by
  unfold portE dueE
  rw [are_add]
  rfl
theorem come_add (i : Nat) : comeS i (addU u E) = addU u (comeS i E) := by
  unfold comeS
  rw [eF_add (by omega), eF_add (by omega), eF_add (by omega), port_add, eS_add, eS_add]
  by_cases q : eF E i 6 = 0 ∧ 21 ≤ eS E 1 - eF E i 3
  · rw [if_pos q, if_pos q, add_sF (by omega), add_sF (by omega), add_sS]
  · rw [if_neg q, if_neg q]
theorem usef_add (i : Nat) : useF (addU u E) i = useF E i := by
  unfold useF
  rw [eF_add (by omega), eF_add (by omega), eF_add (by omega), eS_add]
theorem drink_add (i : Nat) (v : Int32) : drinkS i (addU u E, v) = (addU u (drinkS i (E, v)).1, (drinkS i (E, v)).2) := by
  by_cases q : eF E i 6 = 1
  · rw [drinkS_y (p := (addU u E, v)) (by rw [eF_add (by omega)]; exact q), drinkS_y (p := (E, v)) q]
    dsimp only
    rw [usef_add, eF_add (by omega), eF_add5, add_sF (by omega)]
    rw [show eF E i 5 + u i + useF E i = eF E i 5 + useF E i + u i by rw [Int32.add_assoc, Int32.add_comm (u i), ← Int32.add_assoc], add_s5]
  · rw [drinkS_n (p := (addU u E, v)) (by rw [eF_add (by omega)]; exact q), drinkS_n (p := (E, v)) q]
theorem give_add (d : Nat) (e : Int32) (i : Nat) : giveS d e i (addU u E) = addU u (giveS d e i E) := by
  unfold giveS
  rw [eF_add (by omega), eF_add (by omega), eF_add (by omega)]
  by_cases q : eF E i 2 = nI d ∧ ¬ eF E i 6 = 2
  · rw [if_pos q, if_pos q, add_sF (by omega)]
  · rw [if_neg q, if_neg q]
theorem each_add (d : Nat) : eachE (addU u E) d = eachE E d := by
  unfold eachE
  rw [live_add, eF_add (by omega)]
end
theorem forN_com {σ : Type} {f : Nat → σ → σ} {g : σ → σ} (h : ∀ i s, f i (g s) = g (f i s)) (s : σ) : ∀ n, forN n f (g s) = g (forN n f s)
  | 0 => rfl
  | n + 1 => by rw [forN_s, forN_s, forN_com h s n, h]
section
variable {u : Nat → Int32}
theorem beq_add (E : ES) (d : Nat) : beqE (addU u E) d = addU u (beqE E d) := by
  unfold beqE
  rw [each_add, live_add, eF_add (by omega), eS_add, cnt_add, forN_com (g := addU u) (fun i s => give_add d _ i), add_sF (by omega), add_sS]
theorem die_add (i : Nat) (E : ES) : dieS i (addU u E) = addU u (dieS i E) := by
  unfold dieS
  rw [eF_add (by omega), eF_add (by omega), eS_add]
  by_cases q : eF E i 6 = 1 ∧ 70 ≤ eS E 1 - eF E i 3
  · rw [if_pos q, if_pos q, add_sF (by omega), beq_add]
  · rw [if_neg q, if_neg q]
theorem tick_add (E : ES) : tickE (addU u E) = addU u (tickE E) := by
  unfold tickE
  rw [eS_add]
  by_cases q : eS E 1 < 999
  · rw [if_pos q, if_pos q, add_sS]
  · rw [if_neg q, if_neg q]
theorem comeE_add (E : ES) : comeE (addU u E) = addU u (comeE E) := forN_com (g := addU u) (fun i s => come_add i) E (cnt E)
theorem drinkE_add (E : ES) : drinkE (addU u E) = (addU u (drinkE E).1, (drinkE E).2) := forN_com (f := drinkS) (g := fun p => (addU u p.1, p.2)) (fun i s => drink_add i s.2) (E, 0) (cnt E)
theorem dieE_add (E : ES) : dieE (addU u E) = addU u (dieE E) := forN_com (g := addU u) (fun i s => die_add i s) E (cnt E)
theorem drink_add1 (E : ES) : (drinkE (addU u E)).1 = addU u (drinkE E).1 := by rw [drinkE_add]
theorem drink_add2 (E : ES) : (drinkE (addU u E)).2 = (drinkE E).2 := by rw [drinkE_add]
theorem pass_add1 (E : ES) : (passE (addU u E)).1 = addU u (passE E).1 := by rw [passE_1, passE_1, comeE_add, drink_add1, dieE_add, tick_add]
theorem pass_add2 (E : ES) : (passE (addU u E)).2 = (passE E).2 := by rw [passE_2, passE_2, comeE_add, drink_add2]
theorem passN_n (n : Nat) (E : ES) : passN (n + 1) E = (passE (passN n E)).1 := rfl
theorem passN_add (E : ES) : ∀ n, passN n (addU u E) = addU u (passN n E)
  | 0 => rfl
  | n + 1 => by rw [passN_n, passN_n, passN_add E n, pass_add1]
theorem until_add : ∀ (r y : Nat) (E : ES), untilE y r (addU u E) = untilE y r E
  | 0, y, E => rfl
  | r + 1, y, E => by rw [untilE_s, untilE_s, eS_add, pass_add1, until_add r]
end
def useU (E : ES) (i : Nat) : Int32 := if i < cnt E then eF E i 5 else 0
theorem fg_f (E : ES) (i k : Nat) : ∀ n, eF (forgetE n E) i k = if i < n ∧ k = 5 then 0 else eF E i k
  | 0 => by rw [if_neg (by omega)]; rfl
  | n + 1 => by
    have e : forgetE (n + 1) E = sF (forgetE n E) n 5 0 := rfl
    rw [e, eF_sF, fg_f E i k n]
    by_cases q : i = n ∧ k = 5
    · rw [if_pos q, if_pos (by omega)]
    · rw [if_neg q]
      by_cases q2 : i < n ∧ k = 5
      · rw [if_pos q2, if_pos (by omega)]
      · rw [if_neg q2, if_neg (by omega)]
theorem fg_s (E : ES) : ∀ n, (forgetE n E).1 = E.1 ∧ (forgetE n E).2.1 = E.2.1
  | 0 => ⟨rfl, rfl⟩
  | n + 1 => fg_s E n
theorem sup_add (E : ES) : E = addU (useU E) (supE E) := by
  refine est_ext (fun k => ?_) (fun t => ?_) (fun i k => ?_)
  · exact (congrFun (fg_s E (cnt E)).1 k).symm
  · exact (congrFun (fg_s E (cnt E)).2 t).symm
  · by_cases q : k = 5
    · subst q
      rw [eF_add5]
      unfold supE useU
      rw [fg_f]
      by_cases z : i < cnt E
      · rw [if_pos ⟨z, rfl⟩, if_pos z, Int32.zero_add]
      · rw [if_neg (fun y => z y.1), if_neg z, Int32.add_zero]
    · rw [eF_add q]
      unfold supE
      rw [fg_f, if_neg (fun y => q y.2)]
theorem sup_s (E : ES) (n k : Nat) : eS (passN n E) k = eS (passN n (supE E)) k := by
  conv => lhs; rw [sup_add E]
  rw [passN_add]; rfl
theorem sup_f (E : ES) (n : Nat) {i k : Nat} (hk : k ≠ 5) : eF (passN n E) i k = eF (passN n (supE E)) i k := by
  conv => lhs; rw [sup_add E]
  rw [passN_add]; exact eF_add hk
theorem sup_cnt (E : ES) (n : Nat) : cnt (passN n E) = cnt (passN n (supE E)) := by unfold cnt; rw [sup_s]
