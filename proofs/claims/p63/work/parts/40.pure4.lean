variable {nn : Nat}
/-! ===== looking ahead: what is answered ===== -/
def aheadE (E : ES) (n : Nat) (w : Int32) : Int32 := if w = 0 then eS (passN n (supE E)) 0 else if w = 1 then areN (passN n (supE E)) 1 else sumF (passN n (supE E)) 4
def g_ahead (G : GV) (n w : Int32) : Int32 × GV := if inI n 200 ∧ inI w 2 then (aheadE (vE G) (ix n) w, G) else noG G (-1002)
def laterE (E : ES) (i n : Nat) (w : Int32) : Int32 := if w = 0 then eF (passN n (supE E)) i 4 else if w = 1 then eF (passN n (supE E)) i 5 else eF (passN n (supE E)) i 6
def g_later (G : GV) (i n w : Int32) : Int32 × GV := if isH G i ∧ inI n 200 ∧ inI w 2 then (laterE (vE G) (ix i) (ix n) w, G) else noG G (-1002)
def g_out (G : GV) : Int32 × GV := (if outI (supE (vE G)) ≤ 200 then outI (supE (vE G)) else -1, G)
def lateE (E : ES) (k : Int32) (j m : Nat) : Int32 := (lateN (fun c => outI (supC E k j c)) m).1
def g_longest (G : GV) : Int32 × GV := (lateE (vE G) 0 0 3, G)
def g_better (G : GV) (i : Int32) : Int32 × GV := if isH G i then (lateE (vE G) 1 (ix i) 6, G) else noG G (-1002)
def g_spared (G : GV) : Int32 × GV := if 0 < cnt (vE G) then (lateE (vE G) 3 0 (cnt (vE G)), G) else noG G (-1005)
def happyV (E : ES) (n : Nat) (w : Int32) : Int32 := if w = 0 then nI (happyN (passN n (supE E))) else eF (passN n (supE E)) (happyN (passN n (supE E))) 5
def g_happiest (G : GV) (n w : Int32) : Int32 × GV := if inI n 200 ∧ inI w 1 then (if cnt (vE G) = 0 then noG G (-1005) else (happyV (vE G) (ix n) w, G)) else noG G (-1002)
def g_fair (G : GV) (n : Int32) : Int32 × GV := if inI n 200 then (unfairE (passN (ix n) (supE (vE G))), G) else noG G (-1002)
def fairN (f : Nat → Int32) (m : Nat) : Int32 × Int32 := forN m (fun c p => if p.2 = -1 ∨ f c < p.2 then (nI c, f c) else p) (0, -1)
theorem fairN_s (f : Nat → Int32) (a : Nat) : fairN f (a + 1) = if (fairN f a).2 = -1 ∨ f a < (fairN f a).2 then (nI a, f a) else fairN f a := rfl
def unfC (E : ES) (n c : Nat) : Int32 := unfairE (passN n (supC E 0 0 c))
def g_fairest (G : GV) (n : Int32) : Int32 × GV := if inI n 200 then ((fairN (unfC (vE G) (ix n)) 3).1, G) else noG G (-1002)
def merC (E : ES) (n j c : Nat) : Int32 := eF (passN n (supC E 1 j c)) j 5
def g_merriest (G : GV) (i n : Int32) : Int32 × GV := if isH G i ∧ inI n 200 then ((lateN (merC (vE G) (ix n) (ix i)) 6).1, G) else noG G (-1002)
def whenR (j : Nat) (w : Int32) (r i : Nat) (E : ES) : Int32 := match r with
  | 0 => if w ≤ eF E j 6 then nI i else -1
  | r + 1 => if w ≤ eF E j 6 then nI i else whenR j w r (i + 1) (passE E).1
theorem whenR_0 (j : Nat) (w : Int32) (i : Nat) (E : ES) : whenR j w 0 i E = if w ≤ eF E j 6 then nI i else -1 := rfl
theorem whenR_s (j : Nat) (w : Int32) (r i : Nat) (E : ES) : whenR j w (r + 1) i E = if w ≤ eF E j 6 then nI i else whenR j w r (i + 1) (passE E).1 := rfl
def g_when (G : GV) (i w : Int32) : Int32 × GV := if isH G i ∧ inI w 1 then (whenR (ix i) (if w = 0 then 1 else 2) 200 0 (supE (vE G)), G) else noG G (-1002)
def needR (E : ES) (t : Nat) (r d : Nat) : Int32 := match r with
  | 0 => -1
  | r + 1 => if t < untilE 0 t (sS (supE E) 0 (nI d)) then nI d else needR E t r (d + 1)
theorem needR_s (E : ES) (t r d : Nat) : needR E t (r + 1) d = if t < untilE 0 t (sS (supE E) 0 (nI d)) then nI d else needR E t r (d + 1) := rfl
def g_needs (G : GV) (t : Int32) : Int32 × GV := if inI t 60 then (needR (vE G) (ix t) 1000 0, G) else noG G (-1002)
def mostR (r : Nat) (m : Int32) (E : ES) : Int32 := match r with
  | 0 => m
  | r + 1 => mostR r (if m < areN (passE E).1 1 then areN (passE E).1 1 else m) (passE E).1
theorem mostR_s (r : Nat) (m : Int32) (E : ES) : mostR (r + 1) m E = mostR r (if m < areN (passE E).1 1 then areN (passE E).1 1 else m) (passE E).1 := rfl
def g_most (G : GV) : Int32 × GV := (mostR 200 (areN (supE (vE G)) 1) (supE (vE G)), G)
def feastS (i : Nat) (p : ES × Int32 × Int32) : ES × Int32 × Int32 := ((passE p.1).1, if p.2.2 < (passE p.1).2 then (nI i, (passE p.1).2) else p.2)
def feastN (E : ES) (n : Nat) : ES × Int32 × Int32 := forN n feastS (E, 0, -1)
def g_feast (G : GV) (n w : Int32) : Int32 × GV := if (1 ≤ n ∧ n ≤ 200) ∧ inI w 1 then (if w = 0 then (feastN (supE (vE G)) (ix n)).2.1 else (feastN (supE (vE G)) (ix n)).2.2, G) else noG G (-1002)
def dryS (_ : Nat) (p : ES × Int32 × Int32) : ES × Int32 × Int32 := ((passE p.1).1, if (passE p.1).2 = 0 then p.2.1 + 1 else 0, if p.2.2 < (if (passE p.1).2 = 0 then p.2.1 + 1 else 0) then (if (passE p.1).2 = 0 then p.2.1 + 1 else 0) else p.2.2)
def dryN (E : ES) (n : Nat) : ES × Int32 × Int32 := forN n dryS (E, 0, 0)
def g_dry (G : GV) (n : Int32) : Int32 × GV := if inI n 200 then ((dryN (supE (vE G)) (ix n)).2.2, G) else noG G (-1002)
def toldB (V : Nat → Int64) (j r i : Nat) (E : ES) : Bool := match r with
  | 0 => true
  | r + 1 => decide (V i = (eF (passE E).1 j 4).toInt64) && toldB V j r (i + 1) (passE E).1
theorem toldB_e (V : Nat → Int64) (j : Nat) : ∀ (r i : Nat) (E : ES), toldB V j r i E = true ↔ toldE V j r i E
  | 0, i, E => ⟨fun _ => trivial, fun _ => rfl⟩
  | r + 1, i, E => by
    unfold toldB toldE
    rw [Bool.and_eq_true, decide_eq_true_eq, toldB_e V j r]
theorem toldB_c {V W : Nat → Int64} (j : Nat) : ∀ (r i : Nat) (E : ES), (∀ a, a < i + r → V a = W a) → toldB V j r i E = toldB W j r i E
  | 0, i, E, _ => rfl
  | r + 1, i, E, hq => by
    unfold toldB
    rw [hq i (by omega), toldB_c j r (i + 1) _ (fun a ha => hq a (by omega))]
def fitsN (E : ES) (V : Nat → Int64) (k : Int32) (j n m : Nat) : Int32 := forN m (fun c b => if toldB V j n 0 (supC E k j c) = true then b ||| ((1 : Int32) <<< (nI c &&& 31)) else b) 0
theorem fitsN_s (E : ES) (V : Nat → Int64) (k : Int32) (j n m : Nat) : fitsN E V k j n (m + 1) = if toldB V j n 0 (supC E k j m) = true then fitsN E V k j n m ||| ((1 : Int32) <<< (nI m &&& 31)) else fitsN E V k j n m := rfl
abbrev rowG (G : GV) (t : Nat) (m : Int32) : Int32 := rowR (vH G t) (vZ G t) m
def fitsE (G : GV) (s n i : Nat) (w : Int32) : Int32 := if w = 0 then fitsN (vE G) (vV G s) 1 i n 6 else fitsN (vE G) (vV G s) 2 i n 10
def g_fits (G : GV) (s n i w : Int32) : Int32 × GV := if inI s 7 ∧ (1 ≤ n ∧ n ≤ 40) ∧ isH G i ∧ inI w 1 then (if rowG G (ix s) n = 0 then (fitsE G (ix s) (ix n) (ix i) w, G) else noG G (rowG G (ix s) n)) else noG G (-1002)
def judgeR (V : Nat → Int64) (r i : Nat) (E : ES) : Int32 := match r with
  | 0 => -1
  | r + 1 => if V i = (eS (passE E).1 0).toInt64 then judgeR V r (i + 1) (passE E).1 else nI i
theorem judgeR_s (V : Nat → Int64) (r i : Nat) (E : ES) : judgeR V (r + 1) i E = if V i = (eS (passE E).1 0).toInt64 then judgeR V r (i + 1) (passE E).1 else nI i := rfl
def g_judge (G : GV) (s n : Int32) : Int32 × GV := if inI s 7 ∧ inI n 40 then (if rowG G (ix s) n = 0 then (judgeR (vV G (ix s)) (ix n) 0 (supE (vE G)), G) else noG G (rowG G (ix s) n)) else noG G (-1002)
theorem rowR_code {H Z m : Int32} (hq : ¬ rowR H Z m = 0) : isCode (rowR H Z m) := by
  unfold rowR at *
  by_cases q1_ : 10 ≤ H
  · rw [if_pos q1_]; exact kc3
  · rw [if_neg q1_] at *
    by_cases q2_ : H = -1
    · rw [if_pos q2_]; exact kc4
    · rw [if_neg q2_] at *
      by_cases q3_ : Z < m
      · rw [if_pos q3_]; exact kc2
      · rw [if_neg q3_] at hq; exact absurd rfl hq
theorem goodS_row {G : GV} {s : Nat} (hn : cnt (vE G) ≤ 10) (hs : goodS G s) : (vH G s = -1 ∧ ¬ inI (vH G s) 4) ∨ (inI (vH G s) 4 ∧ ¬ vH G s = -1 ∧ ¬ 10 ≤ vH G s ∧ ∃ z, z ≤ 40 ∧ vZ G s = nI z) ∨ (10 ≤ vH G s ∧ ¬ vH G s = -1 ∧ ¬ inI (vH G s) 4 ∧ ∃ j, j < cnt (vE G) ∧ vH G s = 10 + nI j) := by
  rcases hs with q | ⟨q1_, q2_⟩ | ⟨j, hj, q⟩
  · refine Or.inl ⟨q, fun z => ?_⟩
    rw [q] at z; exact absurd z.1 (by decide)
  · refine Or.inr (Or.inl ⟨q1_, fun z => ?_, fun z => ?_, q2_⟩)
    · rw [z] at q1_; exact absurd q1_.1 (by decide)
    · exact absurd (Int32.le_trans z q1_.2) (by decide)
  · have e : vH G s = nI (10 + j) := by rw [q, ← nI_add]; rfl
    refine Or.inr (Or.inr ⟨?_, fun z => ?_, fun z => ?_, j, hj, q⟩)
    · rw [e]; exact nI_le (a := 10) (by omega) (by omega)
    · rw [e] at z
      exact absurd (show (nI (10 + j)) < 0 by rw [z]; decide) (nI_pos (by omega))
    · rw [e] at z; exact absurd z.2 (nI_ge (a := 4) (by omega) (by omega))
theorem rowR_n (z m : Int32) : rowR (-1) z m = -1004 := by
  unfold rowR
  rw [if_neg (show ¬ (10 : Int32) ≤ -1 by decide), if_pos rfl]
theorem x_row {h : AH} {G : GV} {t : Nat} (hI : okG G) (hG : simX h G) (ht : t < 8) (m : Int32) : rowR (gI h (48 + 2 * t) 0) (gI h (48 + 2 * t) 1) m = rowG G t m := by
  obtain ⟨e1_, e2_⟩ := hG.2.2.2.1 t ht
  rw [e1_]
  rcases goodS_row (okG_n hI) (okG_h hI ht) with ⟨q, -⟩ | ⟨q, -⟩ | ⟨q, -⟩
  · unfold rowG; rw [q, rowR_n, rowR_n]
  · rw [(e2_ q).1]
  · unfold rowG rowR; rw [if_pos q, if_pos q]
theorem row_0 {G : GV} {t : Nat} {m : Int32} (hI : okG G) (ht : t < 8) (hq : rowG G t m = 0) : inI (vH G t) 4 ∧ ∃ z, z ≤ 40 ∧ vZ G t = nI z ∧ m ≤ nI z := by
  rcases goodS_row (okG_n hI) (okG_h hI ht) with ⟨q, -⟩ | ⟨q, q2_, q3_, z, hz, e⟩ | ⟨q, -⟩
  · unfold rowG at hq; rw [q, rowR_n] at hq; exact absurd hq (by decide)
  · refine ⟨q, z, hz, e, ?_⟩
    unfold rowG rowR at hq
    rw [if_neg q3_, if_neg q2_, e] at hq
    by_cases q4_ : nI z < m
    · rw [if_pos q4_] at hq; exact absurd hq (by decide)
    · exact Int32.not_lt.mp q4_
  · unfold rowG rowR at hq; rw [if_pos q] at hq; exact absurd hq (by decide)
