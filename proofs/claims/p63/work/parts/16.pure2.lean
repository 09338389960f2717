variable {nn : Nat}
/-! ===== what an estate answers, and becomes ===== -/
def areN (E : ES) (w : Int32) : Int32 := forN (cnt E) (fun i a => if eF E i 6 = w then a + 1 else a) 0
def fromN (E : ES) (w : Int32) : Int32 := forN (cnt E) (fun i a => if eF E i 2 = w then a + 1 else a) 0
def liveN (E : ES) (w : Int32) : Int32 := forN (cnt E) (fun i a => if eF E i 2 = w ∧ ¬ eF E i 6 = 2 then a + 1 else a) 0
def sumF (E : ES) (k : Nat) : Int32 := forN (cnt E) (fun i a => a + eF E i k) 0
def happyN (E : ES) : Nat := forN (cnt E) (fun i f => if eF E f 5 < eF E i 5 then i else f) 0
def leastU (E : ES) : Int32 := forN (cnt E) (fun i a => if eF E i 5 < a then eF E i 5 else a) (eF E 0 5)
def unfairE (E : ES) : Int32 := if eS E 4 = 0 then 0 else eF E (happyN E) 5 - leastU E
def joyT (E : ES) (x : Int32) : Int32 := forN 8 (fun t a => if (x >>> (nI t &&& 31)) &&& 1 = 1 then a + eJ E t else a) 0
def halfU (x : Int32) : Int32 := (x + 1) / 2
def tenU (x : Int32) : Int32 := (x + 9) / 10
/-- what one of a kind with his a wishes of some drops in a year -/
def wish (k a x y : Int32) : Int32 := if k = 1 then halfU x else if k = 2 then a else if k = 3 then halfU x + a else if k = 4 then (if y - y / 2 * 2 = 0 then a else 0) else if k = 5 then tenU x + 1 else tenU x
def useI (k a x y : Int32) : Int32 := if wish k a x y < x then wish k a x y else x
def dueE (E : ES) : Int32 := if eS E 2 = 1 then tenU (eS E 0) else if eS E 2 = 2 then (if 0 < areN E 0 then eS E 0 / areN E 0 else eS E 0) else 60
def portE (E : ES) : Int32 := if eS E 0 < dueE E then eS E 0 else dueE E
def comeS (i : Nat) (E : ES) : ES := if eF E i 6 = 0 ∧ 21 ≤ eS E 1 - eF E i 3 then sS (sF (sF E i 6 1) i 4 (eF E i 4 + portE E)) 0 (eS E 0 - portE E) else E
def comeE (E : ES) : ES := forN (cnt E) comeS E
def useF (E : ES) (i : Nat) : Int32 := useI (eF E i 0) (eF E i 1) (eF E i 4) (eS E 1)
def drinkS (i : Nat) (p : ES × Int32) : ES × Int32 := if eF p.1 i 6 = 1 then (sF (sF p.1 i 4 (eF p.1 i 4 - useF p.1 i)) i 5 (eF p.1 i 5 + useF p.1 i), p.2 + useF p.1 i) else p
def drinkE (E : ES) : ES × Int32 := forN (cnt E) drinkS (E, 0)
def eachE (E : ES) (x : Nat) : Int32 := if 0 < liveN E (nI x) then eF E x 4 / liveN E (nI x) else 0
def giveS (d : Nat) (e : Int32) (i : Nat) (E : ES) : ES := if eF E i 2 = nI d ∧ ¬ eF E i 6 = 2 then sF E i 4 (eF E i 4 + e) else E
def capS (x : Int32) : Int32 := if x < 9999 then x else 9999
def beqE (E : ES) (d : Nat) : ES := sS (sF (forN (cnt E) (giveS d (eachE E d)) E) d 4 0) 0 (capS (eS E 0 + (eF E d 4 - eachE E d * liveN E (nI d))))
def dieS (i : Nat) (E : ES) : ES := if eF E i 6 = 1 ∧ 70 ≤ eS E 1 - eF E i 3 then beqE (sF E i 6 2) i else E
def dieE (E : ES) : ES := forN (cnt E) dieS E
def tickE (E : ES) : ES := if eS E 1 < 999 then sS E 1 (eS E 1 + 1) else E
def passE (E : ES) : ES × Int32 := (tickE (dieE (drinkE (comeE E)).1), (drinkE (comeE E)).2)
def passN (n : Nat) (E : ES) : ES := forN n (fun _ E => (passE E).1) E
def untilE (y r : Nat) (E : ES) : Nat := match r with
  | 0 => if eS E 0 = 0 then y else y + 1
  | r + 1 => if eS E 0 = 0 then y else untilE (y + 1) r (passE E).1
def newF (k a y f : Int32) (j : Nat) : Int32 := if j = 0 then k else if j = 1 then a else if j = 2 then f else if j = 3 then y else 0
def addE (E : ES) (k a y f : Int32) : ES := (fun j => if j = 4 then nI (cnt E + 1) else E.1 j, E.2.1, fun i j => if i = cnt E ∧ j < 7 then newF k a y f j else E.2.2 i j)
def nextS (s : Int32) : Int32 := s * 1103515245 + 12345
def drawI (s n : Int32) : Int32 := if 0 < n then (s.toUInt32 >>> (Int32.toUInt32 16 &&& Int32.toUInt32 31)).toInt32 - (s.toUInt32 >>> (Int32.toUInt32 16 &&& Int32.toUInt32 31)).toInt32 / n * n else 0
def parE (E : ES) (x : Int32) : Int32 := eF E x.toNatClampNeg 2
def partR (E : ES) (n : Nat) (one p : Int32) : Int32 := match n with
  | 0 => p
  | n + 1 => if one = -1 then p else partR E n (parE E one) (p * fromN E (parE E one))
def genR (E : ES) (n : Nat) (one g : Int32) : Int32 := match n with
  | 0 => g
  | n + 1 => if one = -1 then g else genR E n (parE E one) (g + 1)
def lineR (E : ES) (n : Nat) (one b : Int32) : Int32 := match n with
  | 0 => b
  | n + 1 => if one = -1 then b else lineR E n (parE E one) (b ||| ((1 : Int32) <<< (one &&& 31)))
def kinR (E : ES) (n : Nat) (l one : Int32) : Int32 := match n with
  | 0 => -1
  | n + 1 => if one = -1 then -1 else if (l >>> (one &&& 31)) &&& 1 = 1 then one else kinR E n l (parE E one)
/-- the tree: who is from whom is of a lower number -/
def okT (E : ES) : Prop := ∀ i, i < cnt E → eF E i 2 = -1 ∨ ∃ j, j < i ∧ eF E i 2 = nI j
theorem forN_ind {σ : Type} {P : σ → Prop} {f : Nat → σ → σ} {s : σ} (h0 : P s) (hs : ∀ i s, P s → P (f i s)) : ∀ n, P (forN n f s)
  | 0 => h0
  | n + 1 => hs n _ (forN_ind h0 hs n)
/-- what no year changes -/
def sameE (E E' : ES) : Prop := eS E' 2 = eS E 2 ∧ eS E' 3 = eS E 3 ∧ eS E' 4 = eS E 4 ∧ (∀ t, eJ E' t = eJ E t) ∧ ∀ i k, k < 4 → eF E' i k = eF E i k
theorem sameE_rf (E : ES) : sameE E E := ⟨rfl, rfl, rfl, fun _ => rfl, fun _ _ _ => rfl⟩
theorem sameE_tr {E E' E'' : ES} (h : sameE E E') (h' : sameE E' E'') : sameE E E'' := ⟨h'.1.trans h.1, h'.2.1.trans h.2.1, h'.2.2.1.trans h.2.2.1, fun t => (h'.2.2.2.1 t).trans (h.2.2.2.1 t), fun i k hk => (h'.2.2.2.2 i k hk).trans (h.2.2.2.2 i k hk)⟩
theorem sameE_sF (E : ES) (i k : Nat) (v : Int32) (hk : 4 ≤ k) : sameE E (sF E i k v) := ⟨rfl, rfl, rfl, fun _ => rfl, fun i' k' hk' => by rw [eF_sF, if_neg (by omega)]⟩
theorem sameE_sS (E : ES) (k : Nat) (v : Int32) (hk : k < 2) : sameE E (sS E k v) := ⟨by rw [eS_sS, if_neg (by omega)], by rw [eS_sS, if_neg (by omega)], by rw [eS_sS, if_neg (by omega)], fun _ => rfl, fun _ _ _ => rfl⟩
theorem sameE_cnt {E E' : ES} (h : sameE E E') : cnt E' = cnt E := by unfold cnt; rw [h.2.2.1]
theorem sameE_ok {E E' : ES} (h : sameE E E') (ho : okE E) : okE E' := by
  unfold okE
  rw [sameE_cnt h, h.2.2.1, h.1]
  exact ho
theorem same_comeS (i : Nat) (E : ES) : sameE E (comeS i E) := by
  unfold comeS
  split
  · exact sameE_tr (sameE_sF E i 6 _ (by omega)) (sameE_tr (sameE_sF _ i 4 _ (by omega)) (sameE_sS _ 0 _ (by omega)))
  · exact sameE_rf E
theorem same_for {f : Nat → ES → ES} (h : ∀ i E, sameE E (f i E)) (n : Nat) (E : ES) : sameE E (forN n f E) := forN_ind (P := fun E' => sameE E E') (sameE_rf E) (fun i s hs => sameE_tr hs (h i s)) n
theorem same_drinkS (i : Nat) (p : ES × Int32) : sameE p.1 (drinkS i p).1 := by
  unfold drinkS
  split
  · exact sameE_tr (sameE_sF p.1 i 4 _ (by omega)) (sameE_sF _ i 5 _ (by omega))
  · exact sameE_rf _
theorem same_drinkN (n : Nat) (p : ES × Int32) : sameE p.1 (forN n drinkS p).1 := forN_ind (P := fun p' => sameE p.1 p'.1) (sameE_rf p.1) (fun i s hs => sameE_tr hs (same_drinkS i s)) n
theorem same_giveS (d : Nat) (e : Int32) (i : Nat) (E : ES) : sameE E (giveS d e i E) := by
  unfold giveS
  split
  · exact sameE_sF E i 4 _ (by omega)
  · exact sameE_rf E
theorem same_beqE (E : ES) (d : Nat) : sameE E (beqE E d) := sameE_tr (same_for (same_giveS d _) _ E) (sameE_tr (sameE_sF _ d 4 _ (by omega)) (sameE_sS _ 0 _ (by omega)))
theorem same_dieS (i : Nat) (E : ES) : sameE E (dieS i E) := by
  unfold dieS
  split
  · exact sameE_tr (sameE_sF E i 6 _ (by omega)) (same_beqE _ i)
  · exact sameE_rf E
theorem same_tickE (E : ES) : sameE E (tickE E) := by
  unfold tickE
  split
  · exact sameE_sS E 1 _ (by omega)
  · exact sameE_rf E
theorem same_passE (E : ES) : sameE E (passE E).1 := sameE_tr (same_for same_comeS _ E) (sameE_tr (same_drinkN _ (comeE E, 0)) (sameE_tr (same_for same_dieS _ _) (same_tickE _)))
theorem same_passN (n : Nat) (E : ES) : sameE E (passN n E) := same_for (fun _ E => same_passE E) n E
/-- a loop's variables, as it goes -/
theorem ge_of {a b : Int32} (h : ¬ a ≤ b) : b < a := Int32.not_le.mp h
theorem lpF10 {n i : Nat} (hi : i < n) (hn : n ≤ 10) : (nI n ≤ nI i) = False := lpF hi (by omega)
theorem lpT10 {n : Nat} (hn : n ≤ 10) : (nI n ≤ nI n) = True := lpT (by omega)
theorem vpN {i n : Nat} (hi : i < n) (hn : n < 2147483648) : vp_in (nI i) n = True := eq_true (vp_in_nI hi hn)
theorem vp10 {i : Nat} (hi : i < 10) : vp_in (nI i) 10 = True := vpN hi (by omega)
theorem vp8 {i : Nat} (hi : i < 8) : vp_in (nI i) 8 = True := vpN hi (by omega)
theorem nI_10 {i : Nat} (hi : i < 10) : (nI i).toNatClampNeg = i := nI_clamp (by omega)
theorem cl_0 : (0 : Int32).toNatClampNeg = 0 := by decide
theorem vp_0 : vp_in 0 10 = True := eq_true (vp_in_nI (n := 0) (by omega) (by omega))
theorem h_max (a b : Int32) : (if a < b then b else a) = if a < b then b else a := rfl
theorem lp8F {i : Nat} (hi : i < 8) : ((8 : Int32) ≤ nI i) = False := lpF (n := 8) hi (by omega)
def forgetE (n : Nat) (E : ES) : ES := forN n (fun i E => sF E i 5 0) E
theorem same_forget (n : Nat) (E : ES) : sameE E (forgetE n E) := same_for (fun i E => sameE_sF E i 5 0 (by omega)) n E
theorem cnt_of {h h' : AH} {b : Nat} {E : ES} (hE : est h' b = E) (hs : sameE (est h b) E) (ho : okE (est h b)) : gI h' b 4 = nI (cnt (est h b)) ∧ cnt (est h' b) = cnt (est h b) := by
  subst hE
  refine ⟨?_, sameE_cnt hs⟩
  rw [← est_s (h := h') (b := b) (k := 4) (by omega), hs.2.2.1, est_s (by omega), est_c ho]
theorem gF_s (h : AH) (b i k : Nat) (v : Int32) (k' : Nat) : gI (pI h (b + 3 + i) k v) b k' = gI h b k' := by rw [gI_pI, if_neg (by omega)]
theorem gF_f (h : AH) (b i k : Nat) (v : Int32) (k' : Nat) : gI (pI h (b + 3 + i) k v) (b + 3 + i) k' = if k' = k then v else gI h (b + 3 + i) k' := by rw [gI_pI]; simp
theorem gS_f (h : AH) (b i k : Nat) (v : Int32) (k' : Nat) : gI (pI h b k v) (b + 3 + i) k' = gI h (b + 3 + i) k' := by rw [gI_pI, if_neg (by omega)]
theorem gS_s (h : AH) (b k : Nat) (v : Int32) (k' : Nat) : gI (pI h b k v) b k' = if k' = k then v else gI h b k' := by rw [gI_pI]; simp
theorem cnt_pF (h : AH) (b i k : Nat) (v : Int32) : cnt (est (pI h (b + 3 + i) k v) b) = cnt (est h b) := by rw [est_n, est_n, gF_s]
theorem cnt_pS {h : AH} {b k : Nat} {v : Int32} (hk : k < 4) : cnt (est (pI h b k v) b) = cnt (est h b) := by rw [est_n, est_n, gS_s, if_neg (by omega)]
