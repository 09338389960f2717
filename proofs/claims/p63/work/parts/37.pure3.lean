variable {nn : Nat}
/-! ===== what each call answers and leaves, as functions of the state (both sides are held to them) ===== -/
theorem in_of {v : Int32} {m : Nat} (hm : m < 2147483648) (hv : inI v (nI m)) : ∃ j : Nat, j ≤ m ∧ v = nI j := nI_of2 (n := m) (nI_toInt hm) (Int32.not_lt.mpr hv.1) hv.2
theorem in_is {j m : Nat} (hj : j ≤ m) (hm : m < 2147483648) : inI (nI j) (nI m) := ⟨nI_pos' (by omega), nI_le hj hm⟩
theorem heir_of {n : Nat} {v : Int32} (hn : n ≤ 10) (hv : inI v (nI n - 1)) : ∃ j, j < n ∧ v = nI j := by
  cases n with
  | zero => exact absurd (show (0 : Int32) ≤ nI 0 - 1 from Int32.le_trans hv.1 hv.2) (by decide)
  | succ n =>
    rw [nI_pred] at hv
    obtain ⟨j, q1, q2⟩ := in_of (by omega) hv
    exact ⟨j, by omega, q2⟩
theorem heir_is {n j : Nat} (hn : n ≤ 10) (hj : j < n) : inI (nI j) (nI n - 1) := by
  cases n with
  | zero => omega
  | succ n => rw [nI_pred]; exact in_is (by omega) (by omega)
theorem in7 {v : Int32} (hv : inI v 7) : ∃ j : Nat, j < 8 ∧ v = nI j := by obtain ⟨j, q1, q2⟩ := in_of (m := 7) (by omega) hv; exact ⟨j, by omega, q2⟩
theorem is7 {j : Nat} (hj : j < 8) : inI (nI j) 7 := in_is (m := 7) (by omega) (by omega)
abbrev isH (G : GV) (v : Int32) : Prop := inI v (nI (cnt (vE G)) - 1)
def ix (v : Int32) : Nat := v.toNatClampNeg
theorem ix_n {j : Nat} (hj : j < 10) : ix (nI j) = j := nI_10 hj
theorem ix_m {j : Nat} (hj : j < 2147483648) : ix (nI j) = j := nI_clamp hj
def g_part (G : GV) (i : Int32) : Int32 × GV := if isH G i then (partR (vE G) 10 i 1, G) else noG G (-1002)
def lineE (E : ES) (i : Int32) : Int32 := genR E 10 (parE E i) 0
def g_line (G : GV) (i : Int32) : Int32 × GV := if isH G i then (lineE (vE G) i, G) else noG G (-1002)
def kinE (E : ES) (i j : Int32) : Int32 := kinR E 10 (lineR E 10 j 0) i
def g_kin (G : GV) (i j : Int32) : Int32 × GV := if isH G i ∧ isH G j then (kinE (vE G) i j, G) else noG G (-1002)
def g_under (G : GV) (i : Int32) : Int32 × GV := if isH G i then (underE (vE G) i, G) else noG G (-1002)
def stepE (E : ES) (i j : Int32) : Int32 := if kinE E i j = -1 then -1 else lineE E i + lineE E j - 2 * lineE E (kinE E i j)
def g_steps (G : GV) (i j : Int32) : Int32 × GV := if isH G i ∧ isH G j then (stepE (vE G) i j, G) else noG G (-1002)
def g_share (G : GV) (i n : Int32) : Int32 × GV := if isH G i ∧ inI n 9999 then (if 0 < partR (vE G) 10 i 1 then n / partR (vE G) 10 i 1 else 0, G) else noG G (-1002)
def g_heirOf (G : GV) (i w : Int32) : Int32 × GV := if isH G i then (if w = 0 then (eF (vE G) (ix i) 0, G) else if w = 1 then (eF (vE G) (ix i) 1, G) else if w = 2 then (eF (vE G) (ix i) 2, G) else if w = 3 then (eF (vE G) (ix i) 3, G) else if w = 4 then (eF (vE G) (ix i) 4, G) else if w = 5 then (eF (vE G) (ix i) 5, G) else if w = 6 then (eF (vE G) (ix i) 6, G) else if w = 7 then (eS (vE G) 1 - eF (vE G) (ix i) 3, G) else noG G (-1002)) else noG G (-1002)
def g_joyOf (G : GV) (t : Int32) : Int32 × GV := if inI t 7 then (eJ (vE G) (ix t), G) else noG G (-1002)
def g_uses (G : GV) (i n : Int32) : Int32 × GV := if isH G i ∧ inI n 9999 then (useI (eF (vE G) (ix i) 0) (eF (vE G) (ix i) 1) n (eS (vE G) 1), G) else noG G (-1002)
def g_gets (G : GV) (i : Int32) : Int32 × GV := if isH G i then (if eF (vE G) (ix i) 6 = 0 then (portE (vE G), G) else noG G (-1005)) else noG G (-1002)
def whoE (E : ES) (w : Int32) : Int32 := forN (cnt E) (fun i a => if (if w = 3 then eF E i 2 = -1 else eF E i 6 = w) then a ||| ((1 : Int32) <<< (nI i &&& 31)) else a) 0
def g_who (G : GV) (w : Int32) : Int32 × GV := if inI w 3 then (whoE (vE G) w, G) else noG G (-1002)
def richF (E : ES) (w : Int32) (n : Nat) : Int32 := forN n (fun i f => if eF E i 6 = 1 ∧ (f = -1 ∨ if w = 0 then eF E (ix f) 4 < eF E i 4 else eF E i 4 < eF E (ix f) 4) then nI i else f) (-1)
def richE (E : ES) (w : Int32) : Int32 := richF E w (cnt E)
def g_rich (G : GV) (w : Int32) : Int32 × GV := if inI w 1 then (richE (vE G) w, G) else noG G (-1002)
def eldF (E : ES) (w : Int32) (n : Nat) : Int32 := forN n (fun i f => if eF E i 6 = w ∧ (f = -1 ∨ eF E i 3 < eF E (ix f) 3) then nI i else f) (-1)
def eldE (E : ES) (w : Int32) : Int32 := eldF E w (cnt E)
def g_eldest (G : GV) (w : Int32) : Int32 × GV := if inI w 2 then (eldE (vE G) w, G) else noG G (-1002)
def kindN (E : ES) (w : Int32) : Int32 := forN (cnt E) (fun i a => if eF E i 0 = w then a + 1 else a) 0
def g_ofKind (G : GV) (w : Int32) : Int32 × GV := if inI w 5 then (kindN (vE G) w, G) else noG G (-1002)
def g_leaves (G : GV) (i w : Int32) : Int32 × GV := if isH G i ∧ inI w 1 then (if w = 0 then eachE (vE G) (ix i) else eF (vE G) (ix i) 4 - eachE (vE G) (ix i) * liveN (vE G) i, G) else noG G (-1002)
def statE (G : GV) (w : Int32) : Int32 := if w = 0 then nI (cnt (vE G)) else if w = 1 then eS (vE G) 0 else if w = 2 then eS (vE G) 1 else if w = 3 then eS (vE G) 2 else if w = 4 then areN (vE G) 1 else if w = 5 then sumF (vE G) 5 else if w = 6 then sumF (vE G) 4 else if w = 7 then vS G else if w = 8 then eS (vE G) 3 else if w = 9 then usedN (vH G) else if inI (w - 12) 4 then vF G (ix (w - 12)) else -1
def g_status (G : GV) (w : Int32) : Int32 × GV := (statE G w, G)
def g_holds (G : GV) (s : Int32) : Int32 × GV := (if inI s 7 then vH G (ix s) else -1, G)
def g_says (G : GV) (s k : Int32) : Int32 × GV := if inI s 7 ∧ inI k 5 then (if vH G (ix s) = -1 then noG G (-1004) else if isH G (vH G (ix s) - 10) ∧ kindB (eF (vE G) (ix (vH G (ix s) - 10)) 0) k = 1 then (if k = 0 then eF (vE G) (ix (vH G (ix s) - 10)) 4 else useI (eF (vE G) (ix (vH G (ix s) - 10)) 0) (eF (vE G) (ix (vH G (ix s) - 10)) 1) 100 (eS (vE G) 1), G) else noG G (-1003)) else noG G (-1002)
theorem forN_eq {σ : Type} {f g : Nat → σ → σ} {s : σ} : ∀ n, (∀ i x, i < n → f i x = g i x) → forN n f s = forN n g s
  | 0, _ => rfl
  | n + 1, hq => by rw [forN_s, forN_s, forN_eq n (fun i x hi => hq i x (by omega)), hq n _ (by omega)]
theorem kc2 : isCode (-1002) := of_eq_true ic_2
theorem kc3 : isCode (-1003) := of_eq_true ic_3
theorem kc4 : isCode (-1004) := of_eq_true ic_4
theorem kc5 : isCode (-1005) := of_eq_true ic_5
theorem kc6 : isCode (-1006) := of_eq_true ic_6
