variable {nn : Nat}
/-! ===== the law's state: an estate imaged, and the row that tells it ===== -/
def LT (E : ES) (B : Nat → Int32) (h : AH) (G : GV) : Prop := simX h G ∧ (vE G = E ∧ vK G = 1 ∧ vKE G = E) ∧ inv 9999 G ∧ gI h 64 = B
section LSS
variable {E : ES} {B : Nat → Int32} {h : AH} {G : GV}
theorem LT_ok (hL : LT E B h G) : okG G := ⟨9999, by omega, hL.2.2.1⟩
theorem LT_q (hL : LT E B h G) {h' : AH} (s : simX h' G) (f : frX h h') : LT E B h' G := ⟨s, hL.2.1, hL.2.2.1, (frX_64 f).trans hL.2.2.2⟩
theorem inv_of {T : Nat} (hI : inv T G) (hE : vE G = E) (hK : vK G = 1) (hKE : vKE G = E) (hg : goodE 9999 E) : inv 9999 G := ⟨by rw [hE]; exact hg, Or.inr ⟨hK, by rw [hKE]; exact hg⟩, hI.2.2.1, hI.2.2.2⟩
theorem LT_E (hL : LT E B h G) : goodE 9999 E := hL.2.1.1 ▸ hL.2.2.1.1
theorem LT_n (hL : LT E B h G) : cnt (vE G) ≤ 10 := hL.2.2.1.1.1.2.1
theorem LT_nE (hL : LT E B h G) : cnt E ≤ 10 := hL.2.1.1 ▸ LT_n hL
theorem xl {f : GV → Int32 × GV} {K : Option Value → AH → Prop} {v : Int32} (hL : LT E B h G) (hf : f G = (v, G)) (k : ∀ h', LT E B h' G → K (some (.int v)) h') : XP h f K := xq hL.1 (LT_ok hL) hf (fun h' s' f' => k h' (LT_q hL s' f'))
/-- a refused call -/
theorem xr {f : GV → Int32 × GV} {K : Option Value → AH → Prop} {c : Int32} (hL : LT E B h G) (hf : f G = noG G c) (k : ∀ h', LT E B h' (gR G c) → K (some (.int c)) h') : XP h f K := xq hL.1 (LT_ok hL) hf (fun h' s' f' => k h' ⟨s', hL.2.1, hL.2.2.1, (frX_64 f').trans hL.2.2.2⟩)
/-- a call that leaves the estate, and what is kept, as they are -/
theorem xm {f : GV → Int32 × GV} {K : Option Value → AH → Prop} {v : Int32} {G' : GV} (hL : LT E B h G) (hf : f G = (v, G')) (hE : vE G' = E ∧ vK G' = 1 ∧ vKE G' = E) (hI : inv (9999 + 250000) (f G).2) (k : ∀ h', LT E B h' G' → K (some (.int v)) h') : XP h f K := xq hL.1 (LT_ok hL) hf (fun h' s' f' => k h' ⟨s', hE, inv_of (by rw [hf] at hI; exact hI) hE.1 hE.2.1 hE.2.2 (LT_E hL), (frX_64 f').trans hL.2.2.2⟩)
theorem q_later {x n : Nat} {w : Int32} (hL : LT E B h G) (hx : x < cnt E) (h' : n ≤ 200) (hw : inI w 2) : g_later G (nI x) (nI n) w = (laterE E x n w, G) := by
  have e := hL.2.1.1
  rw [r_later (LT_n hL) (by rw [e]; exact hx) h' hw, e]
theorem q_ahead {n : Nat} {w : Int32} (hL : LT E B h G) (h' : n ≤ 200) (hw : inI w 2) : g_ahead G (nI n) w = (aheadE E n w, G) := by rw [r_ahead h' hw, hL.2.1.1]
theorem q_heirOf {x w : Nat} (hL : LT E B h G) (hx : x < cnt E) (hw : w < 8) : g_heirOf G (nI x) (nI w) = (heW E x w, G) := by
  have e := hL.2.1.1
  rw [r_heirOf (LT_n hL) (by rw [e]; exact hx) hw, e]
theorem q_joyOf {t : Nat} (hL : LT E B h G) (ht : t < 8) : g_joyOf G (nI t) = (eJ E t, G) := by rw [r_joyOf ht, hL.2.1.1]
theorem q_best {m : Nat} (hL : LT E B h G) (hm : m ≤ 8) : g_best G (nI m) = (bestN E (nI m) 256, G) := by rw [r_best hm, hL.2.1.1]
theorem q_made {j : Nat} (hL : LT E B h G) (hj : j ≤ 99) : g_made G (nI j) = (madeN E (nI j) 256, G) := by rw [r_made hj, hL.2.1.1]
theorem q_part {x : Nat} (hL : LT E B h G) (hx : x < cnt E) : g_part G (nI x) = (partR E 10 (nI x) 1, G) := by
  have e := hL.2.1.1
  rw [r_part (LT_n hL) (by rw [e]; exact hx), e]
theorem q_line {x : Nat} (hL : LT E B h G) (hx : x < cnt E) : g_line G (nI x) = (lineE E (nI x), G) := by
  have e := hL.2.1.1
  rw [r_line (LT_n hL) (by rw [e]; exact hx), e]
theorem q_under {x : Nat} (hL : LT E B h G) (hx : x < cnt E) : g_under G (nI x) = (underE E (nI x), G) := by
  have e := hL.2.1.1
  rw [r_under (LT_n hL) (by rw [e]; exact hx), e]
theorem q_kin {x y : Nat} (hL : LT E B h G) (hx : x < cnt E) (hy : y < cnt E) : g_kin G (nI x) (nI y) = (kinE E (nI x) (nI y), G) := by
  have e := hL.2.1.1
  rw [r_kin (LT_n hL) (by rw [e]; exact hx) (by rw [e]; exact hy), e]
theorem q_steps {x y : Nat} (hL : LT E B h G) (hx : x < cnt E) (hy : y < cnt E) : g_steps G (nI x) (nI y) = (stepE E (nI x) (nI y), G) := by
  have e := hL.2.1.1
  rw [r_steps (LT_n hL) (by rw [e]; exact hx) (by rw [e]; exact hy), e]
theorem q_share {x n : Nat} (hL : LT E B h G) (hx : x < cnt E) (h' : n ≤ 9999) : g_share G (nI x) (nI n) = (if 0 < partR E 10 (nI x) 1 then nI n / partR E 10 (nI x) 1 else 0, G) := by
  have e := hL.2.1.1
  rw [r_share (LT_n hL) (by rw [e]; exact hx) h', e]
theorem q_when {x w : Nat} (hL : LT E B h G) (hx : x < cnt E) (hw : w < 2) : g_when G (nI x) (nI w) = (whenR x (if w = 0 then 1 else 2) 200 0 (supE E), G) := by
  have e := hL.2.1.1
  rw [r_when (LT_n hL) (by rw [e]; exact hx) hw, e]
theorem q_fair {n : Nat} (hL : LT E B h G) (h' : n ≤ 200) : g_fair G (nI n) = (unfairE (passN n (supE E)), G) := by rw [r_fair h', hL.2.1.1]
theorem q_fairest {n : Nat} (hL : LT E B h G) (h' : n ≤ 200) : g_fairest G (nI n) = ((fairN (unfC E n) 3).1, G) := by rw [r_fairest h', hL.2.1.1]
theorem q_happiest {n : Nat} {w : Int32} (hL : LT E B h G) (h' : n ≤ 200) (hw : inI w 1) (h0 : 0 < cnt E) : g_happiest G (nI n) w = (happyV E n w, G) := by
  have e := hL.2.1.1
  rw [r_happiest h' hw (by rw [e]; exact h0), e]
theorem q_who {w : Int32} (hL : LT E B h G) (hw : inI w 3) : g_who G w = (whoE E w, G) := by rw [r_who hw, hL.2.1.1]
theorem q_status {w : Nat} (hL : LT E B h G) (hw : w < 7) : g_status G (nI w) = (stW E w, G) := by rw [r_status hw, hL.2.1.1]
theorem q_out (hL : LT E B h G) : g_out G = (outV E, G) := by rw [r_out, hL.2.1.1]; rfl
theorem q_longest (hL : LT E B h G) : g_longest G = (lateE E 0 0 3, G) := by rw [r_longest, hL.2.1.1]
theorem q_most (hL : LT E B h G) : g_most G = (mostR 200 (areN (supE E) 1) (supE E), G) := by rw [r_most, hL.2.1.1]
/-- all is again as it was kept -/
theorem q_back {T : Nat} (s : simX h G) (hI : inv T G) (hT : T ≤ 900000000) (hK : vK G = 1) (hKE : vKE G = E) (hg : goodE 9999 E) (hB : gI h 64 = B) {K : Option Value → AH → Prop} (k : ∀ h', LT E B h' (g_back G).2 → K (some (.int 1)) h') : XP h g_back K := by
  have hf : g_back G = (1, (g_back G).2) := by
    unfold g_back
    rw [if_pos hK]
  refine xq s ⟨T, by omega, hI⟩ hf (fun h' s' f' => ?_)
  have e : vE (g_back G).2 = E ∧ vK (g_back G).2 = 1 ∧ vKE (g_back G).2 = E := by
    unfold g_back
    rw [if_pos hK]
    exact ⟨hKE, hK, hKE⟩
  exact k h' ⟨s', e, inv_of (pr_back hI) e.1 e.2.1 e.2.2 hg, (frX_64 f').trans hB⟩
end LSS
theorem no_b1 {G : GV} : g_born G 6 0 0 (-1) = noG G (-1002) := if_neg (fun z => absurd z.1 (by decide))
theorem no_b2 {G : GV} {n : Nat} (hn : cnt (vE G) = n) (h : n ≤ 10) : g_born G 0 0 0 (nI n) = noG G (-1002) := by
  refine if_neg (fun z => ?_)
  rcases z.2.2.2 with q | q
  · exact absurd (show nI n < 0 by rw [q]; decide) (nI_pos (by omega))
  · obtain ⟨j, hj, e⟩ := heir_of (by omega) q
    rw [kq (by omega) (by omega)] at e
    omega
theorem no_t0 {G : GV} : g_tell G 0 10000 = noG G (-1002) := by
  unfold g_tell
  rw [if_neg (fun z => absurd z.2 (by decide)), if_neg (fun z => absurd z.1 (by decide)), if_neg (fun z => absurd z.1 (by decide))]
theorem no_t2 {G : GV} : g_tell G 2 3 = noG G (-1002) := by
  unfold g_tell
  rw [if_neg (fun z => absurd z.1 (by decide)), if_neg (fun z => absurd z.1 (by decide)), if_neg (fun z => absurd z.2 (by decide))]
theorem no_j {G : GV} : g_joy G 8 0 = noG G (-1002) := if_neg (fun z => absurd z.1 (by decide))
theorem no_g {G : GV} {n : Nat} (hn : cnt (vE G) = n) (h : n ≤ 10) : g_gives G (nI n) 0 0 = noG G (-1002) := by
  refine if_neg (fun z => ?_)
  obtain ⟨j, hj, e⟩ := heir_of (by omega) z.1
  rw [kq (by omega) (by omega)] at e
  omega
theorem no_y {G : GV} : g_years G 61 = noG G (-1002) := if_neg (fun z => absurd z.2 (by decide))
theorem no_d {G : GV} : g_drawn G 0 = noG G (-1002) := if_neg (fun z => absurd z.1 (by decide))
