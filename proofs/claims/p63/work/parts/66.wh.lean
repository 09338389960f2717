variable {nn : Nat}
/-! ===== the law makes its world: what each call answers there ===== -/
theorem atL_skip : ∀ (B R : List Item) (e t : Nat), (B.all (fun x => Nat.blt x.1 e || isNop x.2.1)) = true → e ≤ t → atL (B ++ R) t = atL R t
  | [], R, e, t, _, _ => rfl
  | x :: B, R, e, t, hb, h => by
    simp only [List.all_cons, Bool.and_eq_true, Bool.or_eq_true] at hb
    have ih := atL_skip B R e t hb.2 h
    show (if x.1 = t ∧ isNop x.2.1 = false then x :: (B ++ R) else atL (B ++ R) t) = _
    rw [if_neg, ih]
    intro z
    rcases hb.1 with q | q
    · have := Nat.blt_eq.mp q
      omega
    · rw [z.2] at q; cases q
theorem xq {h : AH} {f : GV → Int32 × GV} {K : Option Value → AH → Prop} {G G' : GV} {v : Int32} (hG : simX h G) (hI : okG G) (hf : f G = (v, G')) (k : ∀ h', simX h' G' → frX h h' → K (some (.int v)) h') : XP h f K :=
  ⟨G, hG, hI, fun h' s' f' => by
    have e1 : (f G).1 = v := by rw [hf]
    have e2 : (f G).2 = G' := by rw [hf]
    rw [e1]
    exact k h' (e2 ▸ s') f'⟩
theorem frX_64 {h h' : AH} (p : frX h h') : gI h' 64 = gI h 64 := funext fun k => p.1 64 k (by omega)
theorem inN {a b : Nat} (hb : b < 2147483648) (h : a ≤ b) : inI (nI a) (nI b) := in_is h hb
theorem r_seed (G : GV) (v : Int32) : g_seed G v = (eS (vE G) 3, uE G (sS (vE G) 3 v)) := rfl
theorem r_tell0 {G : GV} {v : Int32} (h : inI v 9999) : g_tell G 0 v = (eS (vE G) 0, uE G (sS (vE G) 0 v)) := if_pos ⟨rfl, h⟩
theorem r_tell1 {G : GV} {v : Int32} (h : inI v 999) : g_tell G 1 v = (eS (vE G) 1, uE G (sS (vE G) 1 v)) := by
  unfold g_tell
  rw [if_neg (fun z => absurd z.1 (by decide)), if_pos ⟨rfl, h⟩]
theorem r_tell2 {G : GV} {v : Int32} (h : inI v 2) : g_tell G 2 v = (eS (vE G) 2, uE G (sS (vE G) 2 v)) := by
  unfold g_tell
  rw [if_neg (fun z => absurd z.1 (by decide)), if_neg (fun z => absurd z.1 (by decide)), if_pos ⟨rfl, h⟩]
theorem r_joy {G : GV} {t : Nat} {v : Int32} (ht : t < 8) (h : inI v 9) : g_joy G (nI t) v = (eJ (vE G) t, uE G (sJ (vE G) t v)) := by
  unfold g_joy
  rw [if_pos ⟨is7 ht, h⟩, ix_m (j := t) (by omega)]
theorem isH_n {G : GV} {i : Nat} (hn : cnt (vE G) ≤ 10) (hi : i < cnt (vE G)) : isH G (nI i) := heir_is hn hi
theorem r_born {G : GV} {k a y : Nat} {f : Int32} (hk : k ≤ 5) (ha : a ≤ 9) (hy : y ≤ 999) (hf : f = -1 ∨ isH G f) (hn : cnt (vE G) < 10) : g_born G (nI k) (nI a) (nI y) f = (nI (cnt (vE G)), uE G (addE (vE G) (nI k) (nI a) (nI y) f)) := by
  unfold g_born
  rw [if_pos ⟨inN (b := 5) (by omega) hk, inN (b := 9) (by omega) ha, inN (b := 999) (by omega) hy, hf⟩, if_pos hn]
theorem r_gives {G : GV} {i j : Nat} {n : Int32} (hn : cnt (vE G) ≤ 10) (hi : i < cnt (vE G)) (hj : j < cnt (vE G)) (hij : i ≠ j) (h : inI n 9999) (h4 : ¬ eF (vE G) i 4 < n) (hi6 : ¬ eF (vE G) i 6 = 2) (hj6 : ¬ eF (vE G) j 6 = 2) : g_gives G (nI i) (nI j) n = (eF (vE G) i 4 - n, uE G (giveE (vE G) i j n)) := by
  unfold g_gives
  rw [if_pos ⟨isH_n hn hi, isH_n hn hj, fun z => hij (by rw [kq (by omega) (by omega)] at z; exact z), h⟩, ix_m (j := i) (by omega), ix_m (j := j) (by omega), if_neg (fun z => z.elim h4 (fun z => z.elim hi6 hj6))]
theorem r_years {G : GV} {n : Nat} (h1 : 1 ≤ n) (h : n ≤ 60) : g_years G (nI n) = (eS (passN n (vE G)) 0, uE G (passN n (vE G))) := by
  unfold g_years
  rw [if_pos ⟨nI_le (a := 1) h1 (by omega), nI_le (b := 60) h (by omega)⟩, ix_m (j := n) (by omega)]
theorem max_y {w j : Nat} (hw : w < 1000) (hj : j < 75) : ∃ y, y < 1000 ∧ (if 0 < nI w - nI j then nI w - nI j else 0) = nI y := by
  by_cases q : j ≤ w
  · rw [nI_sub q (by omega)]
    refine ⟨w - j, by omega, ?_⟩
    by_cases q2 : 0 < w - j
    · rw [if_pos (by rw [show (0 : Int32) = nI 0 from rfl, nI_ltx (by omega) (by omega)]; exact q2)]
    · rw [if_neg (by rw [show (0 : Int32) = nI 0 from rfl, nI_ltx (by omega) (by omega)]; exact q2), show w - j = 0 by omega]; rfl
  · refine ⟨0, by omega, ?_⟩
    rw [if_neg]
    · rfl
    · rw [lt_ti, ti_0, ti_sub (by rw [nI_toInt (by omega), nI_toInt (by omega)]; omega) (by rw [nI_toInt (by omega), nI_toInt (by omega)]; omega), nI_toInt (by omega), nI_toInt (by omega)]
      omega
theorem min_y {w j : Nat} (hw : w < 1000) (hj : j < 30) : ∃ y, y < 1000 ∧ (if nI w + nI j < 999 then nI w + nI j else 999) = nI y := by
  rw [nI_add]
  by_cases q : w + j < 999
  · exact ⟨w + j, by omega, if_pos (by rw [show (999 : Int32) = nI 999 from rfl, nI_ltx (by omega) (by omega)]; exact q)⟩
  · exact ⟨999, by omega, if_neg (by rw [show (999 : Int32) = nI 999 from rfl, nI_ltx (by omega) (by omega)]; exact q)⟩
theorem f_1 {f : Nat} : nI f - 1 + 1 = nI f := by rw [Int32.sub_add_cancel]
theorem cd_is (k a f y : Nat) : nI k + 10 * nI a + 100 * nI f + 10000 * nI y = nI (cdE k a f y 0) := by
  rw [show (10 : Int32) = nI 10 from rfl, show (100 : Int32) = nI 100 from rfl, show (10000 : Int32) = nI 10000 from rfl, nI_mulN, nI_mulN, nI_mulN, nI_add, nI_add, nI_add]
  have e : k + 10 * a + 100 * f + 10000 * y = cdE k a f y 0 := by unfold cdE; omega
  rw [e]
theorem relB_T {B : Nat → Int32} {E : ES} (h : relB B E) : okT E := by
  intro i hi
  obtain ⟨k, a, f, y, u, hs, -⟩ := relH_i h hi
  rw [hs.2.2.2.2.1]
  by_cases z : f = 0
  · rw [z]; exact Or.inl (by decide)
  · exact Or.inr ⟨f - 1, by have := hs.2.1; omega, by rw [show f = (f - 1) + 1 by omega, nI_pred]; rfl⟩
theorem cnt_add1 {E : ES} (hn : cnt E < 10) (k a y f : Int32) : cnt (addE E k a y f) = cnt E + 1 := by
  show (nI (cnt E + 1)).toNatClampNeg = _
  exact nI_clamp (by omega)
theorem relB_born {h : AH} {E : ES} {k a y f : Nat} (hr : relB (gI h 64) E) (hn : cnt E < 10) (hs : smN k a f y 0) (hf : f ≤ cnt E) (z15 : gI h 64 (15 + cnt E) = 0) (z25 : gI h 64 (25 + cnt E) = 0) : relB (gI (pI (pI h 64 0 (nI (cnt E) + 1)) 64 (5 + cnt E) (nI (cdE k a f y 0))) 64) (addE E (nI k) (nI a) (nI y) (nI f - 1)) := by
  have hc := cnt_add1 hn (nI k) (nI a) (nI y) (nI f - 1)
  obtain ⟨⟨r0, r0b⟩, r1, ⟨r2, r2b⟩, r3, r4, r5⟩ := hr
  generalize hE : addE E (nI k) (nI a) (nI y) (nI f - 1) = E2 at *
  have eS2 : ∀ j, j ≠ 4 → eS E2 j = eS E j := fun j hj => by rw [← hE]; exact if_neg hj
  have eJ2 : ∀ t, eJ E2 t = eJ E t := fun t => by rw [← hE]; rfl
  have eF2 : ∀ i j, i ≠ cnt E → eF E2 i j = eF E i j := fun i j hi => by rw [← hE]; exact if_neg (fun z => hi z.1)
  have eF3 : ∀ j, j < 7 → eF E2 (cnt E) j = newF (nI k) (nI a) (nI y) (nI f - 1) j := fun j hj => by rw [← hE]; exact if_pos ⟨rfl, hj⟩
  refine ⟨⟨?_, by omega⟩, ?_, ⟨?_, ?_⟩, ?_, fun t ht => ⟨?_, ?_⟩, fun i hi => ?_⟩
  · rw [gB, gB, if_neg (by omega), if_pos rfl, hc]; exact nI_1 _
  · rw [gB, gB, if_neg (by omega), if_neg (by omega), eS2 0 (by omega)]; exact r1
  · rw [gB, gB, if_neg (by omega), if_neg (by omega), eS2 1 (by omega)]; exact r2
  · rw [eS2 1 (by omega)]; exact r2b
  · rw [gB, gB, if_neg (by omega), if_neg (by omega), eS2 2 (by omega)]; exact r3
  · rw [gB, gB, if_neg (by omega), if_neg (by omega), eJ2]; exact (r4 t ht).1
  · rw [eJ2]; exact (r4 t ht).2
  · by_cases z : i = cnt E
    · subst z
      refine ⟨⟨k, a, f, y, 0, ⟨hs, hf, ?_, ?_, ?_, ?_, ?_⟩, ?_⟩, ?_, ?_⟩
      · rw [eF3 0 (by omega)]; rfl
      · rw [eF3 1 (by omega)]; rfl
      · rw [eF3 2 (by omega)]; rfl
      · rw [eF3 3 (by omega)]; rfl
      · rw [eF3 6 (by omega)]; rfl
      · rw [gB, if_pos rfl]
      · rw [gB, gB, if_neg (by omega), if_neg (by omega), z15, eF3 4 (by omega)]; rfl
      · rw [gB, gB, if_neg (by omega), if_neg (by omega), z25, eF3 5 (by omega)]; rfl
    · refine relH_mk (r5 i (by omega)) (fun j => eF2 i j z) ?_ ?_ ?_
      · rw [gB, gB, if_neg (by omega), if_neg (by omega)]
      · rw [gB, gB, if_neg (by omega), if_neg (by omega)]
      · rw [gB, gB, if_neg (by omega), if_neg (by omega)]
theorem relB_give {h : AH} {E : ES} {i j : Nat} {n : Int32} (hr : relB (gI h 64) E) (hi : i < cnt E) (hj : j < cnt E) (hij : i ≠ j) : relB (gI (pI (pI h 64 (15 + i) (eF E i 4 - n)) 64 (15 + j) (eF E j 4 + n)) 64) (giveE E i j n) := by
  have r1 := relB_has (v := eF E i 4 - n) hr hi
  exact relB_has (i := j) (v := eF E j 4 + n) r1 hj
