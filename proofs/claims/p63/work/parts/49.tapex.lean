variable {nn : Nat}
/-! ===== THE TAPE: what isn't fed doesn't count ===== -/
section
variable {B B' : Nat → Int32} {n : Nat}
theorem skipB_x (hB : ∀ i, i < n → B i = B' i) : ∀ r i, i + r ≤ n → skipB B r i = skipB B' r i
  | 0, _, _ => rfl
  | r + 1, i, h => by rw [skipB_s, skipB_s, hB i (by omega), skipB_x hB r (i + 1) (by omega)]
theorem runB_x (hB : ∀ i, i < n → B i = B' i) (k : Int32) : ∀ r i, i + r ≤ n → runB B k r i = runB B' k r i
  | 0, _, _ => rfl
  | r + 1, i, h => by rw [runB_s, runB_s, hB i (by omega), runB_x hB k r (i + 1) (by omega)]
theorem tokB_x (hB : ∀ i, i < n → B i = B' i) (s : Nat) : tokB B n s = tokB B' n s := by
  unfold tokB
  by_cases q : n ≤ s
  · rw [if_pos q, if_pos q]
  · rw [if_neg q, if_neg q, hB s (by omega), runB_x hB _ (n - (s + 1)) (s + 1) (by omega)]
theorem nextB_x (hB : ∀ i, i < n → B i = B' i) {e : Nat} (he : e ≤ n) : nextB B n e = nextB B' n e := by
  unfold nextB
  rw [skipB_x hB (n - e) e (by omega), tokB_x hB]
theorem valB_x (hB : ∀ i, i < n → B i = B' i) (s : Nat) : ∀ m, s + m ≤ n → valB B s m = valB B' s m
  | 0, _ => rfl
  | m + 1, h => by rw [valB_s, valB_s, valB_x hB s m (by omega), hB (s + m) (by omega)]
theorem numB_x (hB : ∀ i, i < n → B i = B' i) {T : Nat × Nat × Int32} (h1 : T.1 ≤ T.2.1) (h2 : T.2.1 ≤ n) (m : Int32) : numB B T m → numB B' T m := by
  intro q
  refine ⟨q.1, q.2.1, ?_⟩
  rw [← valB_x hB T.1 (T.2.1 - T.1) (by omega)]
  exact q.2.2
theorem spB_x (hB : ∀ i, i < n → B i = B' i) {s e i : Nat} (h1 : s ≤ e) (h2 : e ≤ n) : spB B s e i = true → spB B' s e i = true := by
  intro q
  rw [spB_y] at q ⊢
  refine ⟨q.1, fun k hk => ?_⟩
  rw [← hB (s + k) (by have := q.1; omega)]
  exact q.2 k hk
theorem hB_s (hB : ∀ i, i < n → B i = B' i) : ∀ i, i < n → B' i = B i := fun i hi => (hB i hi).symm
theorem wordF_x (hB : ∀ i, i < n → B i = B' i) {s e : Nat} (h1 : s ≤ e) (h2 : e ≤ n) : ∀ r i, wordF B s e r i = wordF B' s e r i
  | 0, _ => rfl
  | r + 1, i => by
    rw [wordF_s, wordF_s, wordF_x hB h1 h2 r (i + 1)]
    by_cases q : spB B s e i = true
    · rw [if_pos q, if_pos (spB_x hB h1 h2 q)]
    · rw [if_neg q, if_neg (fun z => q (spB_x (hB_s hB) h1 h2 z))]
theorem wordB_x (hB : ∀ i, i < n → B i = B' i) {T : Nat × Nat × Int32} (h1 : T.1 ≤ T.2.1) (h2 : T.2.1 ≤ n) : wordB B T = wordB B' T := by
  unfold wordB
  rw [wordF_x hB h1 h2]
theorem readN_x (hB : ∀ i, i < n → B i = B' i) (E : ES) (w : Int32) : ∀ r i (T : Nat × Nat × Int32) N, T.2.1 ≤ n → readN B n E w r i T N = readN B' n E w r i T N
  | 0, _, _, _, _ => rfl
  | r + 1, i, T, N, h => by
    have g := nextB_g B' h
    rw [readN_s, readN_s, nextB_x hB h]
    by_cases q : numB B (nextB B' n T.2.1) (mostN E w (nI i))
    · rw [if_pos q, if_pos (numB_x hB g.1 g.2.1 _ q), valB_x hB _ _ (by have := g.1; have := g.2.1; omega)]
      exact readN_x hB E w r (i + 1) _ _ g.2.1
    · rw [if_neg q, if_neg (fun z => q (numB_x (hB_s hB) g.1 g.2.1 _ z))]
theorem readN_b (E : ES) (w : Int32) : ∀ r i (T : Nat × Nat × Int32) N, T.2.1 ≤ n → T.1 ≤ T.2.1 → (readN B n E w r i T N).2.1.1 ≤ (readN B n E w r i T N).2.1.2.1 ∧ (readN B n E w r i T N).2.1.2.1 ≤ n
  | 0, _, _, _, h, h2 => ⟨h2, h⟩
  | r + 1, i, T, N, h, _ => by
    have g := nextB_g B h
    rw [readN_s]
    by_cases q : numB B (nextB B n T.2.1) (mostN E w (nI i))
    · rw [if_pos q]; exact readN_b E w r (i + 1) _ _ g.2.1 g.1
    · rw [if_neg q]; exact ⟨g.1, g.2.1⟩
theorem stmtB_x (hB : ∀ i, i < n → B i = B' i) (E : ES) {T : Nat × Nat × Int32} (h1 : T.1 ≤ T.2.1) (h2 : T.2.1 ≤ n) : stmtB B n E T = stmtB B' n E T := by
  unfold stmtB
  rw [wordB_x hB h1 h2, readN_x hB E _ _ _ T _ h2]
theorem stmtB_b (E : ES) {T : Nat × Nat × Int32} (h1 : T.1 ≤ T.2.1) (h2 : T.2.1 ≤ n) : (stmtB B n E T).2.1.1 ≤ (stmtB B n E T).2.1.2.1 ∧ (stmtB B n E T).2.1.2.1 ≤ n := by
  unfold stmtB
  split
  · exact ⟨h1, h2⟩
  · exact readN_b E _ _ _ T _ h2 h1
theorem intoB_x (hB : ∀ i, i < n → B i = B' i) : ∀ r k (T : Nat × Nat × Int32) E, T.1 ≤ T.2.1 → T.2.1 ≤ n → intoB B n r k T E = intoB B' n r k T E
  | 0, _, _, _, _, _ => rfl
  | r + 1, k, T, E, h1, h2 => by
    have b1 := stmtB_b (B := B') E h1 h2
    have b2 := nextB_g B' b1.2
    have b3 := nextB_g B' b2.2.1
    rw [intoB_s, intoB_s, stmtB_x hB E h1 h2, nextB_x hB b1.2, nextB_x hB b2.2.1, intoB_x hB r (k + 1) _ _ b3.1 b3.2.1]
end
