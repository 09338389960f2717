variable {nn : Nat}
/-! hearing the twos -/
def twoAt (E : Nat → Int64) (i : Nat) : Prop := (0 ≤ E (2 * i) ∧ E (2 * i) < 8) ∧ 0 ≤ E (2 * i + 1) ∧ E (2 * i + 1) ≤ 1
def allTwo (E : Nat → Int64) (m : Nat) : Prop := ∀ i, i < m → twoAt E i
def thereN (E : Nat → Int64) (m t : Nat) : Int32 := forN m (fun i a => if E (2 * i) = Int64.ofNat t ∧ E (2 * i + 1) = 1 then a + 1 else a) 0
def notN (E : Nat → Int64) (m t : Nat) : Int32 := forN m (fun i a => if E (2 * i) = Int64.ofNat t ∧ ¬ E (2 * i + 1) = 1 then a + 1 else a) 0
def frO (h h' : AH) : Prop := (∀ c k, c ≠ 45 → c ≠ 46 → gI h' c k = gI h c k) ∧ ∀ c k, gJ h' c k = gJ h c k
theorem frO_rf (h : AH) : frO h h := ⟨fun _ _ _ _ => rfl, fun _ _ => rfl⟩
theorem frO_5 {h h' : AH} (hf : frO h h') (k : Nat) (v : Int32) : frO h (pI h' 45 k v) := ⟨fun c k' h1 h2 => by rw [gI_pI, if_neg (fun z => h1 z.1)]; exact hf.1 c k' h1 h2, hf.2⟩
theorem frO_6 {h h' : AH} (hf : frO h h') (k : Nat) (v : Int32) : frO h (pI h' 46 k v) := ⟨fun c k' h1 h2 => by rw [gI_pI, if_neg (fun z => h2 z.1)]; exact hf.1 c k' h1 h2, hf.2⟩
theorem nI_2 (i : Nat) : 2 * nI i = nI (2 * i) := (Int32.ofNat_mul 2 i).symm
theorem th_of {x : Int64} (h0 : 0 ≤ x) (h8 : x < 8) : ∃ t, t < 8 ∧ x = Int64.ofNat t ∧ x.toInt32 = nI t := by
  have h1 := Int64.le_iff_toInt_le.mp h0
  have h2 := Int64.lt_iff_toInt_lt.mp h8
  have e0 : (0 : Int64).toInt = 0 := by decide
  have e8 : (8 : Int64).toInt = 8 := by decide
  rw [e0] at h1
  rw [e8] at h2
  refine ⟨x.toInt.toNat, by omega, ?_, ?_⟩
  · rw [← Int64.toInt_inj, Int64.toInt_ofNat_of_lt (by omega)]
    omega
  · rcases (show x.toInt = 0 ∨ x.toInt = 1 ∨ x.toInt = 2 ∨ x.toInt = 3 ∨ x.toInt = 4 ∨ x.toInt = 5 ∨ x.toInt = 6 ∨ x.toInt = 7 by omega) with q | q | q | q | q | q | q | q <;>
      (rw [show x = _ from (Int64.ofInt_toInt x).symm, q]; decide)
theorem n8_inj {t t' : Nat} (h : t < 8) (h' : t' < 8) (e : Int64.ofNat t = Int64.ofNat t') : t = t' := by
  have := congrArg Int64.toInt e
  rw [Int64.toInt_ofNat_of_lt (by omega), Int64.toInt_ofNat_of_lt (by omega)] at this
  omega