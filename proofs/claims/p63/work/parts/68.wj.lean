variable {nn : Nat}
/-! ===== calls that are answered, and change nothing ===== -/
theorem ix_l {n : Nat} (h : n < 2147483648) : ix (nI n) = n := ix_m h
theorem in02 {w : Nat} (h : w < 3) : inI (nI w) 2 := inN (b := 2) (by omega) (by omega)
section RR
variable {G : GV}
theorem r_later {x n : Nat} {w : Int32} (hn : cnt (vE G) ≤ 10) (hx : x < cnt (vE G)) (h : n ≤ 200) (hw : inI w 2) : g_later G (nI x) (nI n) w = (laterE (vE G) x n w, G) := by
  unfold g_later
  rw [if_pos ⟨isH_n hn hx, inN (b := 200) (by omega) h, hw⟩, ix_l (by omega), ix_l (by omega)]
theorem r_ahead {n : Nat} {w : Int32} (h : n ≤ 200) (hw : inI w 2) : g_ahead G (nI n) w = (aheadE (vE G) n w, G) := by
  unfold g_ahead
  rw [if_pos ⟨inN (b := 200) (by omega) h, hw⟩, ix_l (by omega)]
def heW (E : ES) (x w : Nat) : Int32 := if w = 7 then eS E 1 - eF E x 3 else eF E x w
theorem r_heirOf {x w : Nat} (hn : cnt (vE G) ≤ 10) (hx : x < cnt (vE G)) (hw : w < 8) : g_heirOf G (nI x) (nI w) = (heW (vE G) x w, G) := by
  unfold g_heirOf heW
  rw [if_pos (isH_n hn hx), ix_l (by omega)]
  rcases (show w = 0 ∨ w = 1 ∨ w = 2 ∨ w = 3 ∨ w = 4 ∨ w = 5 ∨ w = 6 ∨ w = 7 by omega) with rfl | rfl | rfl | rfl | rfl | rfl | rfl | rfl <;> rfl
theorem r_joyOf {t : Nat} (ht : t < 8) : g_joyOf G (nI t) = (eJ (vE G) t, G) := by
  unfold g_joyOf
  rw [if_pos (is7 ht), ix_l (by omega)]
theorem r_best {m : Nat} (hm : m ≤ 8) : g_best G (nI m) = (bestN (vE G) (nI m) 256, G) := by
  unfold g_best
  rw [if_pos (show inI (nI m) 8 from inN (b := 8) (by omega) hm)]
theorem r_made {j : Nat} (hj : j ≤ 99) : g_made G (nI j) = (madeN (vE G) (nI j) 256, G) := by
  unfold g_made
  rw [if_pos (show inI (nI j) 99 from inN (b := 99) (by omega) hj)]
theorem r_better {x : Nat} (hn : cnt (vE G) ≤ 10) (hx : x < cnt (vE G)) : g_better G (nI x) = (lateE (vE G) 1 x 6, G) := by
  unfold g_better
  rw [if_pos (isH_n hn hx), ix_l (by omega)]
theorem r_part {x : Nat} (hn : cnt (vE G) ≤ 10) (hx : x < cnt (vE G)) : g_part G (nI x) = (partR (vE G) 10 (nI x) 1, G) := if_pos (isH_n hn hx)
theorem r_line {x : Nat} (hn : cnt (vE G) ≤ 10) (hx : x < cnt (vE G)) : g_line G (nI x) = (lineE (vE G) (nI x), G) := if_pos (isH_n hn hx)
theorem r_under {x : Nat} (hn : cnt (vE G) ≤ 10) (hx : x < cnt (vE G)) : g_under G (nI x) = (underE (vE G) (nI x), G) := if_pos (isH_n hn hx)
theorem r_kin {x y : Nat} (hn : cnt (vE G) ≤ 10) (hx : x < cnt (vE G)) (hy : y < cnt (vE G)) : g_kin G (nI x) (nI y) = (kinE (vE G) (nI x) (nI y), G) := if_pos ⟨isH_n hn hx, isH_n hn hy⟩
theorem r_steps {x y : Nat} (hn : cnt (vE G) ≤ 10) (hx : x < cnt (vE G)) (hy : y < cnt (vE G)) : g_steps G (nI x) (nI y) = (stepE (vE G) (nI x) (nI y), G) := if_pos ⟨isH_n hn hx, isH_n hn hy⟩
theorem r_share {x n : Nat} (hn : cnt (vE G) ≤ 10) (hx : x < cnt (vE G)) (h : n ≤ 9999) : g_share G (nI x) (nI n) = (if 0 < partR (vE G) 10 (nI x) 1 then nI n / partR (vE G) 10 (nI x) 1 else 0, G) := if_pos ⟨isH_n hn hx, inN (b := 9999) (by omega) h⟩
theorem r_when {x w : Nat} (hn : cnt (vE G) ≤ 10) (hx : x < cnt (vE G)) (hw : w < 2) : g_when G (nI x) (nI w) = (whenR x (if w = 0 then 1 else 2) 200 0 (supE (vE G)), G) := by
  unfold g_when
  rw [if_pos ⟨isH_n hn hx, inN (b := 1) (by omega) (by omega)⟩, ix_l (by omega)]
  rcases (show w = 0 ∨ w = 1 by omega) with rfl | rfl <;> rfl
theorem r_merriest {x n : Nat} (hn : cnt (vE G) ≤ 10) (hx : x < cnt (vE G)) (h : n ≤ 200) : g_merriest G (nI x) (nI n) = ((lateN (merC (vE G) n x) 6).1, G) := by
  unfold g_merriest
  rw [if_pos ⟨isH_n hn hx, inN (b := 200) (by omega) h⟩, ix_l (by omega), ix_l (by omega)]
theorem r_leaves0 {x : Nat} (hn : cnt (vE G) ≤ 10) (hx : x < cnt (vE G)) : g_leaves G (nI x) 0 = (eachE (vE G) x, G) := by
  unfold g_leaves
  rw [if_pos ⟨isH_n hn hx, inN (a := 0) (b := 1) (by omega) (by omega)⟩, ix_l (by omega), if_pos rfl]
theorem r_fair {n : Nat} (h : n ≤ 200) : g_fair G (nI n) = (unfairE (passN n (supE (vE G))), G) := by
  unfold g_fair
  rw [if_pos (show inI (nI n) 200 from inN (b := 200) (by omega) h), ix_l (by omega)]
theorem r_fairest {n : Nat} (h : n ≤ 200) : g_fairest G (nI n) = ((fairN (unfC (vE G) n) 3).1, G) := by
  unfold g_fairest
  rw [if_pos (show inI (nI n) 200 from inN (b := 200) (by omega) h), ix_l (by omega)]
theorem r_happiest {n : Nat} {w : Int32} (h : n ≤ 200) (hw : inI w 1) (h0 : 0 < cnt (vE G)) : g_happiest G (nI n) w = (happyV (vE G) n w, G) := by
  unfold g_happiest
  rw [if_pos ⟨inN (b := 200) (by omega) h, hw⟩, if_neg (by omega), ix_l (by omega)]
theorem r_feast1 {n : Nat} (h1 : 1 ≤ n) (h : n ≤ 200) : g_feast G (nI n) 1 = ((feastN (supE (vE G)) n).2.2, G) := by
  unfold g_feast
  rw [if_pos ⟨⟨nI_le (a := 1) h1 (by omega), nI_le (b := 200) h (by omega)⟩, inN (a := 1) (b := 1) (by omega) (by omega)⟩, if_neg (by decide), ix_l (by omega)]
theorem r_dry {n : Nat} (h : n ≤ 200) : g_dry G (nI n) = ((dryN (supE (vE G)) n).2.2, G) := by
  unfold g_dry
  rw [if_pos (show inI (nI n) 200 from inN (b := 200) (by omega) h), ix_l (by omega)]
theorem r_rich {w : Int32} (hw : inI w 1) : g_rich G w = (richE (vE G) w, G) := if_pos hw
theorem r_eldest {w : Int32} (hw : inI w 2) : g_eldest G w = (eldE (vE G) w, G) := if_pos hw
theorem r_who {w : Int32} (hw : inI w 3) : g_who G w = (whoE (vE G) w, G) := if_pos hw
theorem r_odds {t q : Nat} {w : Int32} (ht : t ≤ 12) (hq : q ≤ 99) (hw : inI w 1) : g_odds G (nI t) (nI q) w = (oddI (eS (vE G) 0) (nI q) t w, G) := by
  unfold g_odds
  rw [if_pos ⟨inN (b := 12) (by omega) ht, inN (b := 99) (by omega) hq, hw⟩, ix_l (by omega)]
def stW (E : ES) (w : Nat) : Int32 := if w = 0 then nI (cnt E) else if w = 1 then eS E 0 else if w = 2 then eS E 1 else if w = 3 then eS E 2 else if w = 4 then areN E 1 else if w = 5 then sumF E 5 else sumF E 4
theorem r_status {w : Nat} (hw : w < 7) : g_status G (nI w) = (stW (vE G) w, G) := by
  unfold g_status statE stW
  rcases (show w = 0 ∨ w = 1 ∨ w = 2 ∨ w = 3 ∨ w = 4 ∨ w = 5 ∨ w = 6 by omega) with rfl | rfl | rfl | rfl | rfl | rfl | rfl <;> rfl
theorem r_status8 : g_status G 8 = (eS (vE G) 3, G) := rfl
theorem r_out : g_out G = (if outI (supE (vE G)) ≤ 200 then outI (supE (vE G)) else -1, G) := rfl
theorem r_longest : g_longest G = (lateE (vE G) 0 0 3, G) := rfl
theorem r_most : g_most G = (mostR 200 (areN (supE (vE G)) 1) (supE (vE G)), G) := rfl
end RR
theorem iw0 : inI (0 : Int32) 2 := ⟨by decide, by decide⟩
theorem iw1 : inI (1 : Int32) 2 := ⟨by decide, by decide⟩
theorem iw2 : inI (2 : Int32) 2 := ⟨by decide, by decide⟩
theorem iv0 : inI (0 : Int32) 1 := ⟨by decide, by decide⟩
theorem iv1 : inI (1 : Int32) 1 := ⟨by decide, by decide⟩
theorem iu0 : inI (0 : Int32) 3 := ⟨by decide, by decide⟩
theorem iu1 : inI (1 : Int32) 3 := ⟨by decide, by decide⟩
theorem iu2 : inI (2 : Int32) 3 := ⟨by decide, by decide⟩
theorem iu3 : inI (3 : Int32) 3 := ⟨by decide, by decide⟩
