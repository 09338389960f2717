variable {nn : Nat}
/-! ===== bits of a line ===== -/
theorem bit_tb : ∀ d, d < 10 → ∀ n, n < 1024 → (((nI n >>> (nI d &&& 31)) &&& 1 = 1) ↔ n.testBit d = true) := by decide +kernel
theorem or_tb : ∀ k, k < 10 → ∀ n, n < 1024 → nI n ||| ((1 : Int32) <<< (nI k &&& 31)) = nI (n ||| 2 ^ k) ∧ n ||| 2 ^ k < 1024 := by decide +kernel
/-- whether y is met on the way up from z -/
def ofR (E : ES) (n : Nat) (z y : Int32) : Bool := match n with
  | 0 => false
  | n + 1 => if z = -1 then false else if z = y then true else ofR E n (parE E z) y
theorem ofR_s (E : ES) (n : Nat) (z y : Int32) : ofR E (n + 1) z y = if z = -1 then false else if z = y then true else ofR E n (parE E z) y := rfl
/-- nobody, or one of a number below n -/
def trN (E : ES) (n : Nat) (x : Int32) : Prop := x = -1 ∨ ∃ k, k < n ∧ k < cnt E ∧ x = nI k
theorem trN_par {E : ES} (hn : cnt E ≤ 10) (hT : okT E) {n k : Nat} (hk : k < cnt E) (h : k < n + 1) : trN E n (parE E (nI k)) := by
  rw [parE_n (by omega)]
  rcases hT k hk with q | ⟨j, h1, h2⟩
  · exact Or.inl q
  · exact Or.inr ⟨j, by omega, by omega, h2⟩
theorem line_of {E : ES} (hn : cnt E ≤ 10) (hT : okT E) : ∀ n one b, b < 1024 → trN E n one → ∃ r, r < 1024 ∧ lineR E n one (nI b) = nI r ∧ ∀ d, d < 10 → r.testBit d = (b.testBit d || ofR E n one (nI d))
  | 0, one, b, hb, _ => ⟨b, hb, rfl, fun d _ => by show _ = (_ || false); rw [Bool.or_false]⟩
  | n + 1, one, b, hb, h => by
    rw [lineR_s]
    rcases h with rfl | ⟨k, h1, h2, rfl⟩
    · rw [if_pos rfl]
      exact ⟨b, hb, rfl, fun d _ => by rw [ofR_s, if_pos rfl, Bool.or_false]⟩
    · have k10 : k < 10 := by omega
      have nm := of_eq_false (nI_m1 k10)
      obtain ⟨o1, o2⟩ := or_tb k k10 b hb
      rw [if_neg nm, o1]
      obtain ⟨r, r1, r2, r3⟩ := line_of hn hT n (parE E (nI k)) (b ||| 2 ^ k) o2 (trN_par hn hT h2 h1)
      refine ⟨r, r1, r2, fun d hd => ?_⟩
      rw [r3 d hd, ofR_s, if_neg nm, Nat.testBit_or, Nat.testBit_two_pow]
      by_cases z : k = d
      · rw [if_pos (show nI k = nI d by rw [z])]; simp [z]
      · rw [if_neg (show ¬ nI k = nI d by rw [nI_inj (by omega) (by omega)]; exact z)]; simp [z]
theorem line_bit {E : ES} (hn : cnt E ≤ 10) (hT : okT E) {i d : Nat} (hi : i < cnt E) (hd : d < 10) : ((lineR E 10 (nI i) 0 >>> (nI d &&& 31)) &&& 1 = 1) ↔ ofR E 10 (nI i) (nI d) = true := by
  obtain ⟨r, r1, r2, r3⟩ := line_of hn hT 10 (nI i) 0 (by omega) (Or.inr ⟨i, by omega, hi, rfl⟩)
  rw [show (0 : Int32) = nI 0 from rfl, r2, bit_tb d hd r r1, r3 d hd, Nat.zero_testBit, Bool.false_or]
