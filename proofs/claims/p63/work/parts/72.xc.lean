variable {nn : Nat}
/-! ===== when, who, a told ledger, KINDS that would do, YEARS in truth and by draws ===== -/
def h3 (v : Int32) : Prop := v = 0 ∨ v = 1 ∨ v = 2
def howE (n : Nat) (E : ES) : Prop := ∀ x, x < n → h3 (eF E x 6)
theorem how_come {n i : Nat} {E : ES} (h : howE n E) : howE n (comeS i E) := by
  intro x hx
  unfold comeS
  by_cases q : eF E i 6 = 0 ∧ 21 ≤ eS E 1 - eF E i 3
  · rw [if_pos q, eF_sS, eF_sF, if_neg (by omega), eF_sF]
    by_cases z : x = i
    · rw [if_pos ⟨z, rfl⟩]; exact Or.inr (Or.inl rfl)
    · rw [if_neg (fun y => z y.1)]; exact h x hx
  · rw [if_neg q]; exact h x hx
theorem how_drink {n i : Nat} {p : ES × Int32} (h : howE n p.1) : howE n (drinkS i p).1 := by
  intro x hx
  by_cases q : eF p.1 i 6 = 1
  · rw [drinkS_y q]
    show h3 (eF (sF (sF p.1 i 4 _) i 5 _) x 6)
    rw [eF_sF, if_neg (by omega), eF_sF, if_neg (by omega)]
    exact h x hx
  · rw [drinkS_n q]; exact h x hx
theorem how_die {n i : Nat} {E : ES} (h : howE n E) : howE n (dieS i E) := by
  intro x hx
  by_cases q : eF E i 6 = 1 ∧ 70 ≤ eS E 1 - eF E i 3
  · rw [die_y q]
    unfold beqE
    rw [eF_sS, eF_sF, if_neg (by omega), (giveN_f _ _ _ _).2.2.1 x 6 (by omega), eF_sF]
    by_cases z : x = i
    · rw [if_pos ⟨z, rfl⟩]; exact Or.inr (Or.inr rfl)
    · rw [if_neg (fun y => z y.1)]; exact h x hx
  · rw [die_n q]; exact h x hx
theorem how_pass {n : Nat} {E : ES} (h : howE n E) : howE n (passE E).1 := by
  have a1 : howE n (comeE E) := forN_ind h (fun i s hs => how_come hs) _
  have a2 : howE n (drinkE (comeE E)).1 := forN_ind (P := fun p : ES × Int32 => howE n p.1) a1 (fun i s hs => how_drink hs) _
  have a3 : howE n (dieE (drinkE (comeE E)).1) := forN_ind a2 (fun i s hs => how_die hs) _
  rw [passE_1]
  generalize dieE (drinkE (comeE E)).1 = C at *
  unfold tickE
  split
  · exact a3
  · exact a3
theorem how_sup {n : Nat} {E : ES} (h : howE n E) (k : Nat) : howE n (passN k (supE E)) := by
  have h0 : howE n (supE E) := fun x hx => by
    have e : eF (supE E) x 6 = eF E x 6 := by
      show eF (forgetE (cnt E) E) x 6 = _
      rw [fg_f, if_neg (by omega)]
    rw [e]; exact h x hx
  exact forN_ind (P := howE n) h0 (fun _ _ hs => how_pass hs) k
theorem relB_how {B : Nat → Int32} {E : ES} (h : relB B E) : howE (cnt E) E := by
  intro x hx
  obtain ⟨k, a, f, y, u, hs, -⟩ := relH_i h hx
  rw [hs.2.2.2.2.2.2]
  rcases (show u = 0 ∨ u = 1 ∨ u = 2 by have := hs.1.2.2.2.2; omega) with rfl | rfl | rfl
  · exact Or.inl rfl
  · exact Or.inr (Or.inl rfl)
  · exact Or.inr (Or.inr rfl)
theorem when_spec (j : Nat) (w : Int32) : ∀ (r i : Nat) (E : ES), (∃ t, t ≤ r ∧ whenR j w r i E = nI (i + t) ∧ w ≤ eF (passN t E) j 6 ∧ ∀ t', t' < t → ¬ w ≤ eF (passN t' E) j 6) ∨ (whenR j w r i E = -1 ∧ ∀ t', t' ≤ r → ¬ w ≤ eF (passN t' E) j 6)
  | 0, i, E => by
    rw [whenR_0]
    by_cases q : w ≤ eF E j 6
    · exact Or.inl ⟨0, by omega, if_pos q, q, fun t' h => absurd h (Nat.not_lt_zero t')⟩
    · exact Or.inr ⟨if_neg q, fun t' h => by rw [show t' = 0 by omega]; exact q⟩
  | r + 1, i, E => by
    rw [whenR_s]
    by_cases q : w ≤ eF E j 6
    · rw [if_pos q]
      exact Or.inl ⟨0, by omega, rfl, q, fun t' h => absurd h (Nat.not_lt_zero t')⟩
    · rw [if_neg q]
      rcases when_spec j w r (i + 1) (passE E).1 with ⟨t, h1, h2, h4, h5⟩ | ⟨h1, h2⟩
      · refine Or.inl ⟨t + 1, by omega, by rw [h2]; congr 1; omega, by rw [← passN_c1]; exact h4, fun t' h => ?_⟩
        cases t' with
        | zero => exact q
        | succ t' => rw [← passN_c1]; exact h5 t' (by omega)
      · refine Or.inr ⟨h1, fun t' h => ?_⟩
        cases t' with
        | zero => exact q
        | succ t' => rw [← passN_c1]; exact h2 t' (by omega)
theorem h3_1 {v : Int32} (h : h3 v) : (1 ≤ v ↔ ¬ v = 0) ∧ (2 ≤ v ↔ v = 2) := by
  rcases h with rfl | rfl | rfl <;> decide
/-- when one is of age, and no more -/
theorem when_law {E : ES} {x : Nat} (hx : x < cnt E) (hh : howE (cnt E) E) :
    (whenR x 1 200 0 (supE E) = -1 ∨ ∃ a, a ≤ 200 ∧ whenR x 1 200 0 (supE E) = nI a ∧ ¬ laterE E x a 2 = 0 ∧ ∀ a', a' < a → laterE E x a' 2 = 0) ∧
    (whenR x 2 200 0 (supE E) = -1 ∨ ∃ d, d ≤ 200 ∧ whenR x 2 200 0 (supE E) = nI d ∧ laterE E x d 2 = 2 ∧ (∀ d', d' < d → ¬ laterE E x d' 2 = 2) ∧ ∃ a, a ≤ d ∧ whenR x 1 200 0 (supE E) = nI a) := by
  have hk : ∀ k, h3 (eF (passN k (supE E)) x 6) := fun k => how_sup hh k x hx
  simp only [la_2]
  have A := when_spec x 1 200 0 (supE E)
  have D := when_spec x 2 200 0 (supE E)
  refine ⟨?_, ?_⟩
  · rcases A with ⟨t, h1, h2, h4, h5⟩ | ⟨h1, h2⟩
    · refine Or.inr ⟨t, h1, by rw [h2, Nat.zero_add], (h3_1 (hk t)).1.mp h4, fun a' ha => ?_⟩
      have := h5 a' ha
      rw [(h3_1 (hk a')).1] at this
      exact Classical.not_not.mp this
    · exact Or.inl h1
  · rcases D with ⟨t, h1, h2, h4, h5⟩ | ⟨h1, h2⟩
    · have q2 := (h3_1 (hk t)).2.mp h4
      refine Or.inr ⟨t, h1, by rw [h2, Nat.zero_add], q2, fun d' hd z => h5 d' hd ((h3_1 (hk d')).2.mpr z), ?_⟩
      rcases A with ⟨a, h6, h7, h8, h9⟩ | ⟨h6, h7⟩
      · refine ⟨a, ?_, by rw [h7, Nat.zero_add]⟩
        by_cases z : a ≤ t
        · exact z
        · exfalso
          exact h9 t (by omega) (by rw [q2]; decide)
      · exfalso
        exact h7 t h1 (by rw [q2]; decide)
    · exact Or.inl h1
theorem judge_ok {V : Nat → Int64} : ∀ (r i : Nat) (E : ES), (∀ t, t < r → V (i + t) = (eS (passN (t + 1) E) 0).toInt64) → judgeR V r i E = -1
  | 0, i, E, _ => rfl
  | r + 1, i, E, h => by
    rw [judgeR_s, if_pos (show V i = (eS (passE E).1 0).toInt64 from h 0 (by omega))]
    exact judge_ok r (i + 1) _ (fun t ht => by rw [passN_c1, show i + 1 + t = i + (t + 1) by omega]; exact h (t + 1) (by omega))
theorem told_ok {V : Nat → Int64} {j : Nat} : ∀ (r i : Nat) (E : ES), (∀ t, t < r → V (i + t) = (eF (passN (t + 1) E) j 4).toInt64) → toldB V j r i E = true
  | 0, i, E, _ => rfl
  | r + 1, i, E, h => by
    unfold toldB
    rw [Bool.and_eq_true, decide_eq_true_eq]
    exact ⟨h 0 (by omega), told_ok r (i + 1) _ (fun t ht => by rw [passN_c1, show i + 1 + t = i + (t + 1) by omega]; exact h (t + 1) (by omega))⟩
theorem fits_bits {E : ES} {V : Nat → Int64} {k : Int32} {j n : Nat} : ∀ m, m ≤ 10 → ∃ r, r < 1024 ∧ fitsN E V k j n m = nI r ∧ ∀ c, c < m → toldB V j n 0 (supC E k j c) = true → r.testBit c = true
  | 0, _ => ⟨0, by omega, rfl, fun c hc => absurd hc (Nat.not_lt_zero c)⟩
  | m + 1, hm => by
    obtain ⟨r, h1, h2, h4⟩ := fits_bits (E := E) (V := V) (k := k) (j := j) (n := n) m (by omega)
    rw [fitsN_s, h2]
    by_cases q : toldB V j n 0 (supC E k j m) = true
    · obtain ⟨o1, o2⟩ := or_tb m (by omega) r h1
      rw [if_pos q, o1]
      refine ⟨_, o2, rfl, fun c hc hq => ?_⟩
      rw [Nat.testBit_or, Nat.testBit_two_pow]
      by_cases z : c = m
      · simp [z]
      · rw [h4 c (by omega) hq]; rfl
    · rw [if_neg q]
      refine ⟨r, h1, rfl, fun c hc hq => ?_⟩
      by_cases z : c = m
      · rw [z] at hq; exact absurd hq q
      · exact h4 c (by omega) hq
theorem fits_has {E : ES} {V : Nat → Int64} {k : Int32} {j n m c : Nat} (hm : m ≤ 10) (hc : c < m) (h : toldB V j n 0 (supC E k j c) = true) : ¬ (fitsN E V k j n m >>> (nI c &&& 31)) &&& 1 = 0 := by
  obtain ⟨r, h1, h2, h4⟩ := fits_bits (E := E) (V := V) (k := k) (j := j) (n := n) m hm
  have := (bit_tb c (by omega) r h1).mpr (h4 c hc h)
  rw [h2, this]
  decide
theorem sF_same {E : ES} {i k : Nat} {v : Int32} (h : eF E i k = v) : sF E i k v = E := by
  refine est_ext (fun j => rfl) (fun t => rfl) (fun i' k' => ?_)
  rw [eF_sF]
  by_cases z : i' = i ∧ k' = k
  · rw [if_pos z, z.1, z.2, h]
  · rw [if_neg z]
theorem supC_own {E : ES} {j c : Nat} {k : Int32} (h : (k = 1 ∧ eF E j 0 = nI c) ∨ (k = 2 ∧ eF E j 1 = nI c)) : supC E k j c = supE E := by
  have e : ∀ i, i ≠ 5 → eF (supE E) j i = eF E j i := fun i hi => by
    show eF (forgetE (cnt E) E) j i = _
    rw [fg_f, if_neg (by omega)]
  unfold supC
  rcases h with ⟨rfl, h⟩ | ⟨rfl, h⟩
  · rw [if_neg (by decide), if_pos rfl]
    exact sF_same (by rw [e 0 (by omega)]; exact h)
  · rw [if_neg (by decide), if_neg (by decide), if_pos rfl]
    exact sF_same (by rw [e 1 (by omega)]; exact h)
theorem nI_or (a b : Nat) : nI a ||| nI b = nI (a ||| b) := by
  apply Int32.toBitVec_inj.mp
  exact BitVec.ofNat_or.symm
theorem nI_and (a b : Nat) : nI a &&& nI b = nI (a &&& b) := by
  apply Int32.toBitVec_inj.mp
  exact BitVec.ofNat_and.symm
theorem w03 : ((0 : Int32) = 3) = False := by decide
theorem w13 : ((1 : Int32) = 3) = False := by decide
theorem w23 : ((2 : Int32) = 3) = False := by decide
theorem w33 : ((3 : Int32) = 3) = True := by simp
theorem who_bits (E : ES) (w : Int32) : ∀ n, n ≤ 10 → ∃ r, r < 1024 ∧ forN n (fun i a => if (if w = 3 then eF E i 2 = -1 else eF E i 6 = w) then a ||| ((1 : Int32) <<< (nI i &&& 31)) else a) 0 = nI r ∧ ∀ c, r.testBit c = (decide (c < n) && decide (if w = 3 then eF E c 2 = -1 else eF E c 6 = w))
  | 0, _ => ⟨0, by omega, rfl, fun c => by simp⟩
  | n + 1, hn => by
    obtain ⟨r, h1, h2, h4⟩ := who_bits E w n (by omega)
    rw [forN_s, h2]
    by_cases q : (if w = 3 then eF E n 2 = -1 else eF E n 6 = w)
    · obtain ⟨o1, o2⟩ := or_tb n (by omega) r h1
      rw [if_pos q, o1]
      refine ⟨_, o2, rfl, fun c => ?_⟩
      rw [Nat.testBit_or, Nat.testBit_two_pow, h4]
      by_cases z : c = n
      · subst z; simp [q]
      · have e1 : decide (c < n + 1) = decide (c < n) := by
          by_cases y : c < n
          · rw [decide_eq_true y, decide_eq_true (by omega)]
          · rw [decide_eq_false y, decide_eq_false (by omega)]
        rw [e1, decide_eq_false (show ¬ n = c by omega), Bool.or_false]
    · rw [if_neg q]
      refine ⟨r, h1, rfl, fun c => ?_⟩
      rw [h4]
      by_cases z : c = n
      · subst z; simp [q]
      · have e1 : decide (c < n + 1) = decide (c < n) := by
          by_cases y : c < n
          · rw [decide_eq_true y, decide_eq_true (by omega)]
          · rw [decide_eq_false y, decide_eq_false (by omega)]
        rw [e1]
theorem whoE_bits {E : ES} (hn : cnt E ≤ 10) (w : Int32) : ∃ r, r < 1024 ∧ whoE E w = nI r ∧ ∀ c, r.testBit c = (decide (c < cnt E) && decide (if w = 3 then eF E c 2 = -1 else eF E c 6 = w)) := who_bits E w (cnt E) hn
theorem pow_tb : ∀ n, n ≤ 10 → ((1 : Int32) <<< (nI n &&& 31)) - 1 = nI (2 ^ n - 1) := by decide +kernel
/-- all are young, of age, or no more; nobody is two of these -/
theorem who_law {E : ES} (hn : cnt E ≤ 10) (hh : howE (cnt E) E) : whoE E 0 ||| whoE E 1 ||| whoE E 2 = ((1 : Int32) <<< (nI (cnt E) &&& 31)) - 1 ∧ whoE E 0 &&& whoE E 1 = 0 := by
  obtain ⟨r0, a0, b0, c0⟩ := whoE_bits hn 0
  obtain ⟨r1, a1, b1, c1⟩ := whoE_bits hn 1
  obtain ⟨r2, a2, b2, c2⟩ := whoE_bits hn 2
  rw [b0, b1, b2, nI_or, nI_or, nI_and, pow_tb _ hn]
  refine ⟨congrArg nI (Nat.eq_of_testBit_eq fun c => ?_), ?_⟩
  · rw [Nat.testBit_or, Nat.testBit_or, c0, c1, c2, Nat.testBit_two_pow_sub_one]
    simp only [w03, w13, w23, if_false]
    by_cases z : c < cnt E
    · rw [decide_eq_true z]
      rcases hh c z with q | q | q <;> rw [q] <;> decide
    · rw [decide_eq_false z]; rfl
  · have e : r0 &&& r1 = 0 := Nat.eq_of_testBit_eq fun c => by
      rw [Nat.testBit_and, c0, c1, Nat.zero_testBit]
      simp only [w03, w13, if_false]
      by_cases z : c < cnt E
      · rw [decide_eq_true z]
        rcases hh c z with q | q | q <;> rw [q] <;> decide
      · rw [decide_eq_false z]; rfl
    rw [e]; rfl
theorem who3_bit {E : ES} (hn : cnt E ≤ 10) {x : Nat} (hx : x < cnt E) (h : eF E x 2 = -1) : ¬ (whoE E 3 >>> (nI x &&& 31)) &&& 1 = 0 := by
  obtain ⟨r, a, b, c⟩ := whoE_bits hn 3
  have e : r.testBit x = true := by
    rw [c]
    simp only [w33, if_true, decide_eq_true hx, decide_eq_true h]
    rfl
  rw [b, (bit_tb x (by omega) r a).mpr e]
  decide
