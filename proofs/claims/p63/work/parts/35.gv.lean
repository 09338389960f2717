variable {nn : Nat}
/-! ===== the whole state as a value; the class's side of it ===== -/
abbrev GV : Type := ES × (Int32 × ES) × (Int32 × (Nat → Int32)) × (Nat → Int32) × (Nat → Int32) × (Nat → Nat → Int64) × (Nat → Int32)
/-- the HEIRS and what goes with them -/
def vE (G : GV) : ES := G.1
/-- whether an image is kept, and it -/
def vK (G : GV) : Int32 := G.2.1.1
def vKE (G : GV) : ES := G.2.1.2
/-- how long the tape is, and its bytes -/
def vS (G : GV) : Int32 := G.2.2.1.1
def vB (G : GV) (i : Nat) : Int32 := G.2.2.1.2 i
/-- shelves: what they hold, how many elements, the elements -/
def vH (G : GV) (s : Nat) : Int32 := G.2.2.2.1 s
def vZ (G : GV) (s : Nat) : Int32 := G.2.2.2.2.1 s
def vV (G : GV) (s i : Nat) : Int64 := G.2.2.2.2.2.1 s i
def vF (G : GV) (k : Nat) : Int32 := G.2.2.2.2.2.2 k
def uE (G : GV) (E : ES) : GV := (E, G.2)
def uK (G : GV) (f : Int32) (E : ES) : GV := (G.1, (f, E), G.2.2)
def uT (G : GV) (n : Int32) (B : Nat → Int32) : GV := (G.1, G.2.1, (n, B), G.2.2.2)
def uSh (G : GV) (H Z : Nat → Int32) (V : Nat → Nat → Int64) : GV := (G.1, G.2.1, G.2.2.1, H, Z, V, G.2.2.2.2.2.2)
def uF (G : GV) (F : Nat → Int32) : GV := (G.1, G.2.1, G.2.2.1, G.2.2.2.1, G.2.2.2.2.1, G.2.2.2.2.2.1, F)
abbrev inI (v m : Int32) : Prop := 0 ≤ v ∧ v ≤ m
def refP (c : Int32) : Nat := (-1002 - c).toNatClampNeg
def isCode (c : Int32) : Prop := c = -1002 ∨ c = -1003 ∨ c = -1004 ∨ c = -1005 ∨ c = -1006
theorem ic_2 : isCode (-1002) = True := eq_true (Or.inl rfl)
theorem ic_3 : isCode (-1003) = True := eq_true (Or.inr (Or.inl rfl))
theorem ic_4 : isCode (-1004) = True := eq_true (Or.inr (Or.inr (Or.inl rfl)))
theorem ic_5 : isCode (-1005) = True := eq_true (Or.inr (Or.inr (Or.inr (Or.inl rfl))))
theorem ic_6 : isCode (-1006) = True := eq_true (Or.inr (Or.inr (Or.inr (Or.inr rfl))))
theorem isCode_p {c : Int32} (hq : isCode c) : refP c < 5 ∧ inI (-1002 - c) 4 ∧ -1002 - c = nI (refP c) ∧ -1000 - c = nI (refP c + 2) := by
  rcases hq with rfl | rfl | rfl | rfl | rfl <;> decide
def bump (F : Nat → Int32) (p : Nat) : Nat → Int32 := fun k => if k = p then F k + 1 else F k
def gR (G : GV) (c : Int32) : GV := uF G (bump (vF G) (refP c))
/-- a refused call's answer, and what it leaves -/
def noG (G : GV) (c : Int32) : Int32 × GV := (c, gR G c)
def refH (h : AH) (c : Int32) : AH := pI h 47 (refP c) (gI h 47 (refP c) + 1)
def xE (h : AH) (G : GV) : Prop := est h 1 = vE G
def xK (h : AH) (G : GV) : Prop := gI h 0 3 = vK G ∧ (vK G = 1 → est h 27 = vKE G)
def xT (h : AH) (G : GV) : Prop := gI h 40 1 = vS G ∧ ∀ i, i < (vS G).toNatClampNeg → gI h 41 i = vB G i
def xS (h : AH) (G : GV) (s : Nat) : Prop := gI h (48 + 2 * s) 0 = vH G s ∧ (inI (vH G s) 4 → gI h (48 + 2 * s) 1 = vZ G s ∧ ∀ j, j < 40 → gJ h (49 + 2 * s) j = vV G s j)
def xH (h : AH) (G : GV) : Prop := ∀ s, s < 8 → xS h G s
def xF (h : AH) (G : GV) : Prop := ∀ k, k < 5 → gI h 47 k = vF G k
def simX (h : AH) (G : GV) : Prop := xE h G ∧ xK h G ∧ xT h G ∧ xH h G ∧ xF h G
def frX (h h' : AH) : Prop := (∀ c k, 64 ≤ c → gI h' c k = gI h c k) ∧ ∀ c k, 64 ≤ c → gJ h' c k = gJ h c k
theorem frX_rf (h : AH) : frX h h := ⟨fun _ _ _ => rfl, fun _ _ _ => rfl⟩
theorem frX_tr {h h' h'' : AH} (p1 : frX h h') (p2 : frX h' h'') : frX h h'' := ⟨fun c k hc => (p2.1 c k hc).trans (p1.1 c k hc), fun c k hc => (p2.2 c k hc).trans (p1.2 c k hc)⟩
theorem frX_E {b : Nat} {h h' : AH} (hb : isE b) (hf : frE b h h') : frX h h' := ⟨fun c k hc => hf.1 c k (by rcases hb with rfl | rfl | rfl <;> omega), fun c k _ => hf.2 c k⟩
theorem frX_p {h : AH} {c k : Nat} {v : Int32} (hc : c < 64) : frX h (pI h c k v) := ⟨fun c' k' hc' => by rw [gI_pI, if_neg (by omega)], fun _ _ _ => rfl⟩
theorem frX_O {h h' : AH} (hf : frO h h') : frX h h' := ⟨fun c k hc => hf.1 c k (by omega) (by omega), fun c k _ => hf.2 c k⟩
/-- an estate in order -/
def sumI (n : Nat) (f : Nat → Int) : Int := match n with
  | 0 => 0
  | n + 1 => sumI n f + f n
def totE (E : ES) : Int := (eS E 0).toInt + sumI (cnt E) (fun i => (eF E i 4).toInt)
def bndE (T : Nat) (E : ES) : Prop := (0 ≤ eS E 0 ∧ eS E 0 ≤ 9999) ∧ (∀ i, i < cnt E → inI (eF E i 1) 9 ∧ 0 ≤ eF E i 4) ∧ totE E ≤ T
def goodE (T : Nat) (E : ES) : Prop := okE E ∧ okT E ∧ bndE T E
def goodS (G : GV) (s : Nat) : Prop := (vH G s = -1 ∨ (inI (vH G s) 4 ∧ ∃ z, z ≤ 40 ∧ vZ G s = nI z) ∨ ∃ j, j < cnt (vE G) ∧ vH G s = 10 + nI j)
/-- a state in order; T: no more drops than so many -/
def inv (T : Nat) (G : GV) : Prop := goodE T (vE G) ∧ (vK G = 0 ∨ (vK G = 1 ∧ goodE T (vKE G))) ∧ (∃ m, m ≤ 250 ∧ vS G = nI m) ∧ ∀ s, s < 8 → goodS G s
def okG (G : GV) : Prop := ∃ T, T ≤ 1000000000 ∧ inv T G
/-- what a call of the class asks, with what it answers and leaves as a function of the state -/
def XP (h : AH) (f : GV → Int32 × GV) (K : Option Value → AH → Prop) : Prop := ∃ G, simX h G ∧ okG G ∧ ∀ h', simX h' (f G).2 → frX h h' → K (some (.int (f G).1)) h'
theorem est_same {b : Nat} {h h' : AH} (q0 : ∀ k, gI h' b k = gI h b k) (q1 : ∀ k, gI h' (b + 1) k = gI h (b + 1) k) (q2 : ∀ i k, i < 10 → gI h' (b + 3 + i) k = gI h (b + 3 + i) k) (hn : cnt (est h b) ≤ 10) : est h' b = est h b := by
  rw [est_n] at hn
  refine est_ext (fun k' => ?_) (fun t' => ?_) (fun i k' => ?_)
  · show (if k' < 5 then gI h' b k' else 0) = if k' < 5 then gI h b k' else 0
    rw [q0]
  · show (if t' < 8 then gI h' (b + 1) t' else 0) = if t' < 8 then gI h (b + 1) t' else 0
    rw [q1]
  · show (if i < (gI h' b 4).toNatClampNeg ∧ k' < 7 then gI h' (b + 3 + i) k' else 0) = (if i < (gI h b 4).toNatClampNeg ∧ k' < 7 then gI h (b + 3 + i) k' else 0)
    rw [q0]
    by_cases hq : i < (gI h b 4).toNatClampNeg ∧ k' < 7
    · rw [if_pos hq, if_pos hq, q2 i k' (by omega)]
    · rw [if_neg hq, if_neg hq]
theorem okG_n {G : GV} (hI : okG G) : cnt (vE G) ≤ 10 := by obtain ⟨T, -, q, -⟩ := hI; exact q.1.2.1
theorem okG_ok {G : GV} (hI : okG G) : okE (vE G) := by obtain ⟨T, -, q, -⟩ := hI; exact q.1
theorem okG_t {G : GV} (hI : okG G) : okT (vE G) := by obtain ⟨T, -, q, -⟩ := hI; exact q.2.1
theorem okG_k {G : GV} (hI : okG G) (hk : vK G = 1) : okE (vKE G) ∧ cnt (vKE G) ≤ 10 := by
  obtain ⟨T, -, -, q, -⟩ := hI
  rcases q with q | q
  · rw [q] at hk; exact absurd hk (by decide)
  · exact ⟨q.2.1, q.2.1.2.1⟩
theorem okG_0 {G : GV} (hI : okG G) : vK G = 0 ∨ vK G = 1 := by
  obtain ⟨T, -, -, q, -⟩ := hI
  rcases q with q | q
  · exact Or.inl q
  · exact Or.inr q.1
theorem okG_s {G : GV} (hI : okG G) : ∃ m, m ≤ 250 ∧ vS G = nI m := by obtain ⟨T, -, -, -, q, -⟩ := hI; exact q
theorem okG_h {G : GV} (hI : okG G) {s : Nat} (hs : s < 8) : goodS G s := by obtain ⟨T, -, -, -, -, q⟩ := hI; exact q s hs
/-- only other cells have changed: all as it was -/
theorem simX_fr {h h' : AH} {G : GV} (hI : okG G) (hx : simX h G) (P : Nat → Prop) (hP : ∀ c, P c → (14 ≤ c ∧ c < 27) ∨ (44 ≤ c ∧ c < 47) ∨ c = 42 ∨ 64 ≤ c) (h1 : ∀ c k, ¬ P c → gI h' c k = gI h c k) (h2 : ∀ c k, ¬ P c → gJ h' c k = gJ h c k) : simX h' G := by
  obtain ⟨he, hk, ht, hh, hf⟩ := hx
  have np : ∀ c, c < 14 ∨ (27 ≤ c ∧ c < 42) ∨ c = 43 ∨ (47 ≤ c ∧ c < 64) → ¬ P c := fun c hc hp => by have := hP c hp; omega
  refine ⟨?_, ⟨?_, fun z => ?_⟩, ⟨?_, fun i hi => ?_⟩, fun s hs => ⟨?_, fun z => ⟨?_, fun j hj => ?_⟩⟩, fun k hk2 => ?_⟩
  · unfold xE at *
    rw [← he]
    exact est_same (fun k => h1 _ _ (np _ (by omega))) (fun k => h1 _ _ (np _ (by omega))) (fun i k hi => h1 _ _ (np _ (by omega))) (by rw [he]; exact okG_n hI)
  · rw [h1 _ _ (np _ (by omega))]; exact hk.1
  · have e := hk.2 z
    rw [← e]
    exact est_same (fun k => h1 _ _ (np _ (by omega))) (fun k => h1 _ _ (np _ (by omega))) (fun i k hi => h1 _ _ (np _ (by omega))) (by rw [e]; exact (okG_k hI z).2)
  · rw [h1 _ _ (np _ (by omega))]; exact ht.1
  · rw [h1 _ _ (np _ (by omega))]; exact ht.2 i hi
  · rw [h1 _ _ (np _ (by omega))]; exact (hh s hs).1
  · rw [h1 _ _ (np _ (by omega))]; exact ((hh s hs).2 z).1
  · rw [h2 _ _ (np _ (by omega))]; exact ((hh s hs).2 z).2 j hj
  · rw [h1 _ _ (np _ (by omega))]; exact hf k hk2
theorem simX_then {h h' : AH} {G : GV} (hI : okG G) (hx : simX h G) (hf : frE 14 h h') : simX h' G := simX_fr hI hx (fun c => 14 ≤ c ∧ c < 27) (fun c hc => Or.inl hc) (fun c k hc => hf.1 c k (by omega)) (fun c k _ => hf.2 c k)
theorem simX_op {h h' : AH} {G : GV} (hI : okG G) (hx : simX h G) (hf : frO h h') : simX h' G := simX_fr hI hx (fun c => c = 45 ∨ c = 46) (fun c hc => by omega) (fun c k hc => hf.1 c k (by omega) (by omega)) (fun c k _ => hf.2 c k)
theorem est_pO {h : AH} {b c k : Nat} {v : Int32} (hc : c < b ∨ b + 13 ≤ c) (hn : cnt (est h b) ≤ 10) : est (pI h c k v) b = est h b :=
  est_same (fun k' => by rw [gI_pI, if_neg (by omega)]) (fun k' => by rw [gI_pI, if_neg (by omega)]) (fun i k' hi => by rw [gI_pI, if_neg (by omega)]) hn
theorem simX_ref {h : AH} {G : GV} {c : Int32} (hI : okG G) (hx : simX h G) (hc : isCode c) : simX (refH h c) (gR G c) := by
  obtain ⟨he, hk, ht, hh, hf⟩ := hx
  have hp := (isCode_p hc).1
  have e1 : ∀ c' k', c' ≠ 47 → gI (refH h c) c' k' = gI h c' k' := fun c' k' q => by unfold refH; rw [gI_pI, if_neg (fun z => q z.1)]
  refine ⟨?_, ⟨?_, fun z => ?_⟩, ⟨?_, fun i hi => ?_⟩, fun s hs => ⟨?_, fun z => ⟨?_, fun j hj => ?_⟩⟩, fun k hk2 => ?_⟩
  · exact (est_pO (by omega) (by rw [he]; exact okG_n hI)).trans he
  · exact hk.1
  · have e := hk.2 z
    exact (est_pO (by omega) (by rw [e]; exact (okG_k hI z).2)).trans e
  · exact ht.1
  · rw [e1 _ _ (by omega)]; exact ht.2 i hi
  · rw [e1 _ _ (by omega)]; exact (hh s hs).1
  · rw [e1 _ _ (by omega)]; exact ((hh s hs).2 z).1
  · exact ((hh s hs).2 z).2 j hj
  · show gI (pI h 47 (refP c) (gI h 47 (refP c) + 1)) 47 k = if k = refP c then vF G k + 1 else vF G k
    rw [gI_pI, ← hf k hk2]
    by_cases q : k = refP c
    · rw [q, if_pos ⟨rfl, rfl⟩, if_pos rfl]
    · rw [if_neg (fun z => q z.2), if_neg q]
theorem frX_ref (h : AH) (c : Int32) : frX h (refH h c) := frX_p (by omega)
/-- the HEIRS have changed -/
theorem simX_E {h h' : AH} {G : GV} {E : ES} (hI : okG G) (hx : simX h G) (hE : est h' 1 = E) (hf : frE 1 h h') : simX h' (uE G E) := by
  obtain ⟨he, hk, ht, hh, hg⟩ := hx
  have f1 : ∀ c k, c < 1 ∨ 14 ≤ c → gI h' c k = gI h c k := fun c k q => hf.1 c k (by omega)
  refine ⟨hE, ⟨?_, fun z => ?_⟩, ⟨?_, fun i hi => ?_⟩, fun s hs => ⟨?_, fun z => ⟨?_, fun j hj => ?_⟩⟩, fun k hk2 => ?_⟩
  · rw [f1 _ _ (by omega)]; exact hk.1
  · have e := hk.2 z
    show est h' 27 = vKE G
    rw [← e]
    exact est_same (fun k => f1 _ _ (by omega)) (fun k => f1 _ _ (by omega)) (fun i k hi => f1 _ _ (by omega)) (by rw [e]; exact (okG_k hI z).2)
  · rw [f1 _ _ (by omega)]; exact ht.1
  · rw [f1 _ _ (by omega)]; exact ht.2 i hi
  · rw [f1 _ _ (by omega)]; exact (hh s hs).1
  · rw [f1 _ _ (by omega)]; exact ((hh s hs).2 z).1
  · rw [hf.2]; exact ((hh s hs).2 z).2 j hj
  · rw [f1 _ _ (by omega)]; exact hg k hk2
/-- a shelf has changed -/
theorem simX_sh {h h' : AH} {G : GV} {s : Nat} (hI : okG G) (hx : simX h G) (hs : s < 8) (f1 : ∀ c k, c ≠ 48 + 2 * s → gI h' c k = gI h c k) (f2 : ∀ c k, c ≠ 49 + 2 * s → gJ h' c k = gJ h c k) {H Z : Nat → Int32} {V : Nat → Nat → Int64} (hH : ∀ t, t ≠ s → H t = vH G t ∧ Z t = vZ G t ∧ ∀ j, V t j = vV G t j) (h0 : gI h' (48 + 2 * s) 0 = H s) (h1 : inI (H s) 4 → gI h' (48 + 2 * s) 1 = Z s ∧ ∀ j, j < 40 → gJ h' (49 + 2 * s) j = V s j) : simX h' (uSh G H Z V) := by
  obtain ⟨he, hk, ht, hh, hg⟩ := hx
  refine ⟨?_, ⟨?_, fun z => ?_⟩, ⟨?_, fun i hi => ?_⟩, fun t ht2 => ?_, fun k hk2 => ?_⟩
  · show est h' 1 = vE G
    rw [← he]
    exact est_same (fun k => f1 _ _ (by omega)) (fun k => f1 _ _ (by omega)) (fun i k hi => f1 _ _ (by omega)) (by rw [he]; exact okG_n hI)
  · rw [f1 _ _ (by omega)]; exact hk.1
  · have e := hk.2 z
    show est h' 27 = vKE G
    rw [← e]
    exact est_same (fun k => f1 _ _ (by omega)) (fun k => f1 _ _ (by omega)) (fun i k hi => f1 _ _ (by omega)) (by rw [e]; exact (okG_k hI z).2)
  · rw [f1 _ _ (by omega)]; exact ht.1
  · rw [f1 _ _ (by omega)]; exact ht.2 i hi
  · by_cases q : t = s
    · rw [q]
      exact ⟨h0, h1⟩
    · obtain ⟨a1, a2, a3⟩ := hH t q
      have a4 := hh t ht2
      refine ⟨?_, fun z => ?_⟩
      · rw [f1 _ _ (by omega)]; exact a4.1.trans a1.symm
      · have z2 : inI (vH G t) 4 := a1 ▸ z
        refine ⟨?_, fun j hj => ?_⟩
        · rw [f1 _ _ (by omega)]; exact (a4.2 z2).1.trans a2.symm
        · rw [f2 _ _ (by omega)]; exact ((a4.2 z2).2 j hj).trans (a3 j).symm
  · rw [f1 _ _ (by omega)]; exact hg k hk2
/-- the tape has changed -/
theorem simX_tp {h h' : AH} {G : GV} (hI : okG G) (hx : simX h G) (f1 : ∀ c k, (c < 40 ∨ 42 ≤ c) → gI h' c k = gI h c k) (f2 : ∀ c k, gJ h' c k = gJ h c k) {n : Int32} {B : Nat → Int32} (h0 : gI h' 40 1 = n) (h1 : ∀ i, i < n.toNatClampNeg → gI h' 41 i = B i) : simX h' (uT G n B) := by
  obtain ⟨he, hk, ht, hh, hg⟩ := hx
  refine ⟨?_, ⟨?_, fun z => ?_⟩, ⟨h0, h1⟩, fun s hs => ⟨?_, fun z => ⟨?_, fun j hj => ?_⟩⟩, fun k hk2 => ?_⟩
  · show est h' 1 = vE G
    rw [← he]
    exact est_same (fun k => f1 _ _ (by omega)) (fun k => f1 _ _ (by omega)) (fun i k hi => f1 _ _ (by omega)) (by rw [he]; exact okG_n hI)
  · rw [f1 _ _ (by omega)]; exact hk.1
  · have e := hk.2 z
    show est h' 27 = vKE G
    rw [← e]
    exact est_same (fun k => f1 _ _ (by omega)) (fun k => f1 _ _ (by omega)) (fun i k hi => f1 _ _ (by omega)) (by rw [e]; exact (okG_k hI z).2)
  · rw [f1 _ _ (by omega)]; exact (hh s hs).1
  · rw [f1 _ _ (by omega)]; exact ((hh s hs).2 z).1
  · rw [f2]; exact ((hh s hs).2 z).2 j hj
  · rw [f1 _ _ (by omega)]; exact hg k hk2
