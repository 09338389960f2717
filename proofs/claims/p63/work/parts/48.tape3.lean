variable {nn : Nat}
/-! ===== THE TAPE: statements ===== -/
theorem nI_ofP {x : Int32} (h0 : 0 ≤ x.toInt) : x = nI x.toInt.toNat := by
  have := Int32.toInt_lt x
  rw [← Int32.toInt_inj, nI_toInt (by omega)]
  omega
theorem sort_1 {x : Int32} (h : sortI x = 1) : ∃ b : Nat, 48 ≤ b ∧ b ≤ 57 ∧ x = nI b := by
  unfold sortI at h
  have e48 : (48 : Int32).toInt = 48 := by decide
  have e57 : (57 : Int32).toInt = 57 := by decide
  by_cases q : ¬ x < 97 ∧ ¬ 122 < x
  · rw [if_pos q] at h; exact absurd h (by decide)
  · rw [if_neg q] at h
    by_cases q2 : ¬ x < 48 ∧ ¬ 57 < x
    · have h1 := Int32.not_lt.mp q2.1
      have h2 := Int32.not_lt.mp q2.2
      rw [Int32.le_iff_toInt_le, e48] at h1
      rw [Int32.le_iff_toInt_le, e57] at h2
      exact ⟨x.toInt.toNat, by omega, by omega, nI_ofP (by omega)⟩
    · rw [if_neg q2] at h
      by_cases q3 : x = 59
      · rw [if_pos q3] at h; exact absurd h (by decide)
      · rw [if_neg q3] at h; exact absurd h (by decide)
theorem dig_1 {v b : Nat} (hv : v < 1000000) (h1 : 48 ≤ b) (h2 : b ≤ 57) : nI v * 10 + nI b - 48 = nI (v * 10 + b - 48) := by
  rw [show nI v * 10 = nI (v * 10) from (Int32.ofNat_mul v 10).symm, nI_ad, show (48 : Int32) = nI 48 from rfl, nI_sub (by omega) (by omega)]
theorem valB_d (B : Nat → Int32) (s : Nat) : ∀ m, m ≤ 3 → (∀ k, k < m → sortI (B (s + k)) = 1) → ∃ v : Nat, v < 10 ^ m ∧ valB B s m = nI v
  | 0, _, _ => ⟨0, by omega, rfl⟩
  | m + 1, hm, hd => by
    obtain ⟨v, hv, ev⟩ := valB_d B s m (by omega) (fun k hk => hd k (by omega))
    obtain ⟨b, b1, b2, eb⟩ := sort_1 (hd m (by omega))
    have hv6 : v < 1000000 := Nat.lt_of_lt_of_le hv (Nat.le_trans (Nat.pow_le_pow_right (by omega) (show m ≤ 6 by omega)) (by decide))
    refine ⟨v * 10 + b - 48, ?_, ?_⟩
    · rw [Nat.pow_succ]; omega
    · rw [valB_s, ev, eb, dig_1 hv6 b1 b2]
theorem runB_a (B : Nat → Int32) (k : Int32) : ∀ r i j, i ≤ j → j < runB B k r i → sortI (B j) = k
  | 0, i, j, h1, h2 => absurd h2 (by show ¬ j < i; omega)
  | r + 1, i, j, h1, h2 => by
    rw [runB_s] at h2
    by_cases q : sortI (B i) = k
    · rw [if_pos q] at h2
      by_cases z : i = j
      · rw [← z]; exact q
      · exact runB_a B k r (i + 1) j (by omega) h2
    · rw [if_neg q] at h2; omega
/-- a token as the reader finds it -/
def goodT (B : Nat → Int32) (n : Nat) (T : Nat × Nat × Int32) : Prop := T.1 ≤ T.2.1 ∧ T.2.1 ≤ n ∧ (T.2.2 = 1 → ∀ j, T.1 ≤ j → j < T.2.1 → sortI (B j) = 1)
theorem nextB_g (B : Nat → Int32) {n e : Nat} (he : e ≤ n) : goodT B n (nextB B n e) := by
  obtain ⟨h1, h2, h3, -⟩ := nextB_b B he
  refine ⟨h2, h3, ?_⟩
  unfold nextB tokB
  by_cases q : n ≤ skipB B (n - e) e
  · rw [if_pos q]
    intro z
    exact absurd (show (4 : Int32) = 1 from z) (by decide)
  · rw [if_neg q]
    dsimp only
    intro z j j1 j2
    rw [if_pos (Or.inr z)] at j2
    by_cases y : j = skipB B (n - e) e
    · rw [y]; exact z
    · rw [← z]
      exact runB_a B _ _ _ j (by omega) j2
theorem numB_v {B : Nat → Int32} {n : Nat} {T : Nat × Nat × Int32} {m : Int32} (hT : goodT B n T) (hq : numB B T m) : ∃ v : Nat, v < 1000 ∧ valB B T.1 (T.2.1 - T.1) = nI v ∧ nI v ≤ m := by
  obtain ⟨v, hv, ev⟩ := valB_d B T.1 (T.2.1 - T.1) hq.2.1 (fun k hk => hT.2.2 hq.1 _ (by omega) (by omega))
  refine ⟨v, Nat.lt_of_lt_of_le hv (Nat.le_trans (Nat.pow_le_pow_right (by omega) hq.2.1) (by decide)), ev, ?_⟩
  rw [← ev]; exact hq.2.2
theorem wordF_r (B : Nat → Int32) (s e : Nat) : ∀ r i, i + r = 7 → wordF B s e r i = -1 ∨ ∃ d, d < 7 ∧ wordF B s e r i = nI d
  | 0, i, _ => Or.inl rfl
  | r + 1, i, hi => by
    rw [wordF_s]
    by_cases q : spB B s e i = true
    · rw [if_pos q]; exact Or.inr ⟨i, by omega, rfl⟩
    · rw [if_neg q]; exact wordF_r B s e r (i + 1) (by omega)
theorem wordB_r (B : Nat → Int32) (T : Nat × Nat × Int32) : wordB B T = -1 ∨ ∃ d, d < 7 ∧ wordB B T = nI d := by
  unfold wordB
  by_cases q : T.2.2 = 0
  · rw [if_pos q]; exact wordF_r B _ _ 7 0 rfl
  · rw [if_neg q]; exact Or.inl rfl
def doE (E : ES) (w : Int32) (N : Nat → Int32) : ES := if w = 0 then addE E (N 0) (N 1) (N 2) (-1) else if w = 1 then addE E (N 0) (N 1) (N 2) (N 3) else if w = 2 then sF E (ix (N 0)) 4 (N 1) else if w = 3 then sS E 0 (N 0) else if w = 4 then sS E 1 (N 0) else if w = 5 then sS E 2 (N 0) else sJ E (ix (N 0)) (N 1)
theorem doE_x (E : ES) {d : Nat} (hd : d < 7) {N N' : Nat → Int32} (h : ∀ k, k < wantN (nI d) → N k = N' k) : doE E (nI d) N = doE E (nI d) N' := by
  rcases (show d = 0 ∨ d = 1 ∨ d = 2 ∨ d = 3 ∨ d = 4 ∨ d = 5 ∨ d = 6 by omega) with rfl | rfl | rfl | rfl | rfl | rfl | rfl
  · show addE E (N 0) (N 1) (N 2) (-1) = addE E (N' 0) (N' 1) (N' 2) (-1)
    rw [h 0 (by decide), h 1 (by decide), h 2 (by decide)]
  · show addE E (N 0) (N 1) (N 2) (N 3) = addE E (N' 0) (N' 1) (N' 2) (N' 3)
    rw [h 0 (by decide), h 1 (by decide), h 2 (by decide), h 3 (by decide)]
  · show sF E (ix (N 0)) 4 (N 1) = sF E (ix (N' 0)) 4 (N' 1)
    rw [h 0 (by decide), h 1 (by decide)]
  · show sS E 0 (N 0) = sS E 0 (N' 0)
    rw [h 0 (by decide)]
  · show sS E 1 (N 0) = sS E 1 (N' 0)
    rw [h 0 (by decide)]
  · show sS E 2 (N 0) = sS E 2 (N' 0)
    rw [h 0 (by decide)]
  · show sJ E (ix (N 0)) (N 1) = sJ E (ix (N' 0)) (N' 1)
    rw [h 0 (by decide), h 1 (by decide)]
/-- what the numbers of a statement are held to -/
def okW (E : ES) (d : Nat) (N : Nat → Int32) : Prop := (d < 2 → cnt E < 10) ∧ ∀ k, k < wantN (nI d) → ∃ v : Nat, v < 1000 ∧ N k = nI v ∧ nI v ≤ mostN E (nI d) (nI k)
theorem le_nIm {v n : Nat} (hv : v < 1000) (hn : n ≤ 10) (h : nI v ≤ nI n - 1) : v < n := by
  have e1 : (1 : Int32).toInt = 1 := by decide
  rw [Int32.le_iff_toInt_le, Int32.toInt_sub, nI_toInt (by omega), nI_toInt (by omega), e1, Int.bmod_eq_of_le (by omega) (by omega)] at h
  omega
theorem le_nIk {v n : Nat} (hv : v < 1000) (hn : n < 1000) (h : nI v ≤ nI n) : v ≤ n := by
  rw [Int32.le_iff_toInt_le, nI_toInt (by omega), nI_toInt (by omega)] at h
  omega
theorem okW_has {E : ES} {N : Nat → Int32} (ho : okE E) (hw : okW E 2 N) : ∃ i : Nat, i < cnt E ∧ N 0 = nI i := by
  obtain ⟨v, h1, h2, h3⟩ := hw.2 0 (by decide)
  have h4 : nI v ≤ eS E 4 - 1 := h3
  rw [ho.1] at h4
  exact ⟨v, le_nIm h1 ho.2.1 h4, h2⟩
theorem okW_joy {E : ES} {N : Nat → Int32} (hw : okW E 6 N) : ∃ i : Nat, i < 8 ∧ N 0 = nI i := by
  obtain ⟨v, h1, h2, h3⟩ := hw.2 0 (by decide)
  have := le_nIk (n := 7) h1 (by omega) h3
  exact ⟨v, by omega, h2⟩
theorem okW_rule {E : ES} {N : Nat → Int32} (hw : okW E 5 N) : N 0 = 0 ∨ N 0 = 1 ∨ N 0 = 2 := by
  obtain ⟨v, h1, h2, h3⟩ := hw.2 0 (by decide)
  have := le_nIk (n := 2) h1 (by omega) h3
  rw [h2]
  rcases (show v = 0 ∨ v = 1 ∨ v = 2 by omega) with rfl | rfl | rfl
  · exact Or.inl rfl
  · exact Or.inr (Or.inl rfl)
  · exact Or.inr (Or.inr rfl)
theorem cnt_addE (E : ES) (k a y f : Int32) (hn : cnt E < 10) : cnt (addE E k a y f) = cnt E + 1 := nI_clamp (show cnt E + 1 < 2 ^ 31 by omega)
theorem ok_addE {E : ES} {k a y f : Int32} (ho : okE E) (hn : cnt E < 10) : okE (addE E k a y f) := by
  refine ⟨?_, ?_, ?_⟩
  · rw [cnt_addE _ _ _ _ _ hn]; rfl
  · rw [cnt_addE _ _ _ _ _ hn]; omega
  · exact ho.2.2
theorem ok_doE {E : ES} {d : Nat} {N : Nat → Int32} (hd : d < 7) (ho : okE E) (hw : okW E d N) : okE (doE E (nI d) N) := by
  rcases (show d = 0 ∨ d = 1 ∨ d = 2 ∨ d = 3 ∨ d = 4 ∨ d = 5 ∨ d = 6 by omega) with rfl | rfl | rfl | rfl | rfl | rfl | rfl
  · exact ok_addE ho (hw.1 (by omega))
  · exact ok_addE ho (hw.1 (by omega))
  · exact ho
  · exact ho
  · exact ho
  · exact ⟨ho.1, ho.2.1, okW_rule hw⟩
  · exact ho
theorem nk_0_0 : (nI 0 = 0) = True := by decide
theorem nk_0_1 : (nI 0 = 1) = False := by decide
theorem nk_0_2 : (nI 0 = 2) = False := by decide
theorem nk_0_3 : (nI 0 = 3) = False := by decide
theorem nk_0_4 : (nI 0 = 4) = False := by decide
theorem nk_0_5 : (nI 0 = 5) = False := by decide
theorem nk_1_0 : (nI 1 = 0) = False := by decide
theorem nk_1_1 : (nI 1 = 1) = True := by decide
theorem nk_1_2 : (nI 1 = 2) = False := by decide
theorem nk_1_3 : (nI 1 = 3) = False := by decide
theorem nk_1_4 : (nI 1 = 4) = False := by decide
theorem nk_1_5 : (nI 1 = 5) = False := by decide
theorem nk_2_0 : (nI 2 = 0) = False := by decide
theorem nk_2_1 : (nI 2 = 1) = False := by decide
theorem nk_2_2 : (nI 2 = 2) = True := by decide
theorem nk_2_3 : (nI 2 = 3) = False := by decide
theorem nk_2_4 : (nI 2 = 4) = False := by decide
theorem nk_2_5 : (nI 2 = 5) = False := by decide
theorem nk_3_0 : (nI 3 = 0) = False := by decide
theorem nk_3_1 : (nI 3 = 1) = False := by decide
theorem nk_3_2 : (nI 3 = 2) = False := by decide
theorem nk_3_3 : (nI 3 = 3) = True := by decide
theorem nk_3_4 : (nI 3 = 4) = False := by decide
theorem nk_3_5 : (nI 3 = 5) = False := by decide
theorem nk_4_0 : (nI 4 = 0) = False := by decide
theorem nk_4_1 : (nI 4 = 1) = False := by decide
theorem nk_4_2 : (nI 4 = 2) = False := by decide
theorem nk_4_3 : (nI 4 = 3) = False := by decide
theorem nk_4_4 : (nI 4 = 4) = True := by decide
theorem nk_4_5 : (nI 4 = 5) = False := by decide
theorem nk_5_0 : (nI 5 = 0) = False := by decide
theorem nk_5_1 : (nI 5 = 1) = False := by decide
theorem nk_5_2 : (nI 5 = 2) = False := by decide
theorem nk_5_3 : (nI 5 = 3) = False := by decide
theorem nk_5_4 : (nI 5 = 4) = False := by decide
theorem nk_5_5 : (nI 5 = 5) = True := by decide
theorem nk_6_0 : (nI 6 = 0) = False := by decide
theorem nk_6_1 : (nI 6 = 1) = False := by decide
theorem nk_6_2 : (nI 6 = 2) = False := by decide
theorem nk_6_3 : (nI 6 = 3) = False := by decide
theorem nk_6_4 : (nI 6 = 4) = False := by decide
theorem nk_6_5 : (nI 6 = 5) = False := by decide
theorem vq4_0 : vp_in 0 4 = True := eq_true (vp_in_nI (n := 0) (by omega) (by omega))
theorem cq_0 : (0 : Int32).toNatClampNeg = 0 := by decide
theorem vq4_1 : vp_in 1 4 = True := eq_true (vp_in_nI (n := 1) (by omega) (by omega))
theorem cq_1 : (1 : Int32).toNatClampNeg = 1 := by decide
theorem vq4_2 : vp_in 2 4 = True := eq_true (vp_in_nI (n := 2) (by omega) (by omega))
theorem cq_2 : (2 : Int32).toNatClampNeg = 2 := by decide
theorem vq4_3 : vp_in 3 4 = True := eq_true (vp_in_nI (n := 3) (by omega) (by omega))
theorem cq_3 : (3 : Int32).toNatClampNeg = 3 := by decide
def P_X4_carryOut : Sp0T := fun as h K => match as with
  | [.ref c, .int w, .ref b] => c = 40 ∧ b = 14 ∧ okE (est h 14) ∧ ∃ d : Nat, d < 7 ∧ w = nI d ∧ okW (est h 14) d (gI h 42) ∧ ∀ h', est h' 14 = doE (est h 14) (nI d) (gI h 42) → frE 14 h h' → K none h'
  | _ => False
def S_X4_carryOut : SpT := lift P_X4_carryOut
def L_X4_carryOut_178 : List Item := (178, .return_, [], nS) :: []
def L_X4_carryOut_161 : List Item := (161, .aload_n 2, [], nS) :: (162, .getfield 89, [0, 5, 1], nS) :: (165, .aload_n 0, [], nS) :: (166, .getfield 15, [4, 5, 1], nS) :: (169, .iconst 0, [], nS) :: (170, .iaload, [], nS) :: (171, .aload_n 0, [], nS) :: (172, .getfield 15, [4, 5, 1], nS) :: (175, .iconst 1, [], nS) :: (176, .iaload, [], nS) :: (177, .iastore, [], nS) :: L_X4_carryOut_178
def L_X4_carryOut_148 : List Item := (148, .aload_n 2, [], nS) :: (149, .aload_n 0, [], nS) :: (150, .getfield 15, [4, 5, 1], nS) :: (153, .iconst 0, [], nS) :: (154, .iaload, [], nS) :: (155, .putfield 86, [0, 2, 0], nS) :: (158, .goto 20, [178], nS) :: L_X4_carryOut_161
def L_X4_carryOut_135 : List Item := (135, .aload_n 2, [], nS) :: (136, .aload_n 0, [], nS) :: (137, .getfield 15, [4, 5, 1], nS) :: (140, .iconst 0, [], nS) :: (141, .iaload, [], nS) :: (142, .putfield 83, [0, 1, 0], nS) :: (145, .goto 33, [178], nS) :: L_X4_carryOut_148
def L_X4_carryOut_122 : List Item := (122, .aload_n 2, [], nS) :: (123, .aload_n 0, [], nS) :: (124, .getfield 15, [4, 5, 1], nS) :: (127, .iconst 0, [], nS) :: (128, .iaload, [], nS) :: (129, .putfield 80, [0, 0, 0], nS) :: (132, .goto 46, [178], nS) :: L_X4_carryOut_135
def L_X4_carryOut_99 : List Item := (99, .aload_n 2, [], nS) :: (100, .getfield 71, [0, 6, 1], nS) :: (103, .aload_n 0, [], nS) :: (104, .getfield 15, [4, 5, 1], nS) :: (107, .iconst 0, [], nS) :: (108, .iaload, [], nS) :: (109, .aaload, [], nS) :: (110, .aload_n 0, [], nS) :: (111, .getfield 15, [4, 5, 1], nS) :: (114, .iconst 1, [], nS) :: (115, .iaload, [], nS) :: (116, .putfield 75, [1, 4, 0], nS) :: (119, .goto 59, [178], nS) :: L_X4_carryOut_122
def L_X4_carryOut_67 : List Item := (67, .aload_n 2, [], nS) :: (68, .aload_n 0, [], nS) :: (69, .getfield 15, [4, 5, 1], nS) :: (72, .iconst 0, [], nS) :: (73, .iaload, [], nS) :: (74, .aload_n 0, [], nS) :: (75, .getfield 15, [4, 5, 1], nS) :: (78, .iconst 1, [], nS) :: (79, .iaload, [], nS) :: (80, .aload_n 0, [], nS) :: (81, .getfield 15, [4, 5, 1], nS) :: (84, .iconst 2, [], nS) :: (85, .iaload, [], nS) :: (86, .aload_n 0, [], nS) :: (87, .getfield 15, [4, 5, 1], nS) :: (90, .iconst 3, [], nS) :: (91, .iaload, [], nS) :: (92, .invokevirtual 67, [4, 0, 0, 0], S_X0_addHeir) :: (95, .pop, [], nS) :: (96, .goto 82, [178], nS) :: L_X4_carryOut_99
def L_X4_carryOut_40 : List Item := (40, .aload_n 2, [], nS) :: (41, .aload_n 0, [], nS) :: (42, .getfield 15, [4, 5, 1], nS) :: (45, .iconst 0, [], nS) :: (46, .iaload, [], nS) :: (47, .aload_n 0, [], nS) :: (48, .getfield 15, [4, 5, 1], nS) :: (51, .iconst 1, [], nS) :: (52, .iaload, [], nS) :: (53, .aload_n 0, [], nS) :: (54, .getfield 15, [4, 5, 1], nS) :: (57, .iconst 2, [], nS) :: (58, .iaload, [], nS) :: (59, .iconst (-1), [], nS) :: (60, .invokevirtual 67, [4, 0, 0, 0], S_X0_addHeir) :: (63, .pop, [], nS) :: (64, .goto 114, [178], nS) :: L_X4_carryOut_67
def L_X4_carryOut_0 : List Item := (0, .iload_n 1, [], nS) :: (1, .tableswitch 160 0 5 #[39, 66, 98, 121, 134, 147], [40, 67, 99, 122, 135, 148, 161], nS) :: L_X4_carryOut_40
def L_X4_carryOut : List Item := L_X4_carryOut_0
theorem ok_X4_carryOut : okB cX4_carryOut L_X4_carryOut = true := by decide +kernel
theorem lk_X4_carryOut (l : Launch) : LKs l RX4 3 false L_X4_carryOut := ⟨trivial, trivial, trivial, trivial, ⟨_, _, _, rfl, ⟨(RX4, TX4, 6), rfl, by decide, gT_of (List.mem_of_getElem? (i := 143) (by decide +kernel)) rfl⟩, rfl⟩, trivial, trivial, trivial, ⟨_, _, _, rfl, ⟨(RX4, TX4, 6), rfl, by decide, gT_of (List.mem_of_getElem? (i := 143) (by decide +kernel)) rfl⟩, rfl⟩, trivial, trivial, trivial, ⟨_, _, _, rfl, ⟨(RX4, TX4, 6), rfl, by decide, gT_of (List.mem_of_getElem? (i := 143) (by decide +kernel)) rfl⟩, rfl⟩, trivial, trivial, trivial, ⟨_, _, _, _, _, _, _, _, _, rfl, c_X0_addHeir l, Or.inl ⟨by decide, yv_X0_addHeir⟩, by decide, gT_of (List.mem_of_getElem? (i := 425) (by decide +kernel)) rfl⟩, trivial, trivial, trivial, trivial, ⟨_, _, _, rfl, ⟨(RX4, TX4, 6), rfl, by decide, gT_of (List.mem_of_getElem? (i := 143) (by decide +kernel)) rfl⟩, rfl⟩, trivial, trivial, trivial, ⟨_, _, _, rfl, ⟨(RX4, TX4, 6), rfl, by decide, gT_of (List.mem_of_getElem? (i := 143) (by decide +kernel)) rfl⟩, rfl⟩, trivial, trivial, trivial, ⟨_, _, _, rfl, ⟨(RX4, TX4, 6), rfl, by decide, gT_of (List.mem_of_getElem? (i := 143) (by decide +kernel)) rfl⟩, rfl⟩, trivial, trivial, trivial, ⟨_, _, _, rfl, ⟨(RX4, TX4, 6), rfl, by decide, gT_of (List.mem_of_getElem? (i := 143) (by decide +kernel)) rfl⟩, rfl⟩, trivial, trivial, ⟨_, _, _, _, _, _, _, _, _, rfl, c_X0_addHeir l, Or.inl ⟨by decide, yv_X0_addHeir⟩, by decide, gT_of (List.mem_of_getElem? (i := 425) (by decide +kernel)) rfl⟩, trivial, trivial, trivial, ⟨_, _, _, rfl, ⟨(RX0, TX0, 7), rfl, by decide, gT_of (List.mem_of_getElem? (i := 113) (by decide +kernel)) rfl⟩, rfl⟩, trivial, ⟨_, _, _, rfl, ⟨(RX4, TX4, 6), rfl, by decide, gT_of (List.mem_of_getElem? (i := 143) (by decide +kernel)) rfl⟩, rfl⟩, trivial, trivial, trivial, trivial, ⟨_, _, _, rfl, ⟨(RX4, TX4, 6), rfl, by decide, gT_of (List.mem_of_getElem? (i := 143) (by decide +kernel)) rfl⟩, rfl⟩, trivial, trivial, ⟨_, _, _, rfl, ⟨(RX1, TX1, 7), rfl, by decide, gT_of (List.mem_of_getElem? (i := 70) (by decide +kernel)) rfl⟩, rfl, fun q => absurd rfl q⟩, trivial, trivial, trivial, ⟨_, _, _, rfl, ⟨(RX4, TX4, 6), rfl, by decide, gT_of (List.mem_of_getElem? (i := 143) (by decide +kernel)) rfl⟩, rfl⟩, trivial, trivial, ⟨_, _, _, rfl, ⟨(RX0, TX0, 7), rfl, by decide, gT_of (List.mem_of_getElem? (i := 96) (by decide +kernel)) rfl⟩, rfl, fun q => absurd rfl q⟩, trivial, trivial, trivial, ⟨_, _, _, rfl, ⟨(RX4, TX4, 6), rfl, by decide, gT_of (List.mem_of_getElem? (i := 143) (by decide +kernel)) rfl⟩, rfl⟩, trivial, trivial, ⟨_, _, _, rfl, ⟨(RX0, TX0, 7), rfl, by decide, gT_of (List.mem_of_getElem? (i := 99) (by decide +kernel)) rfl⟩, rfl, fun q => absurd rfl q⟩, trivial, trivial, trivial, ⟨_, _, _, rfl, ⟨(RX4, TX4, 6), rfl, by decide, gT_of (List.mem_of_getElem? (i := 143) (by decide +kernel)) rfl⟩, rfl⟩, trivial, trivial, ⟨_, _, _, rfl, ⟨(RX0, TX0, 7), rfl, by decide, gT_of (List.mem_of_getElem? (i := 102) (by decide +kernel)) rfl⟩, rfl, fun q => absurd rfl q⟩, trivial, trivial, ⟨_, _, _, rfl, ⟨(RX0, TX0, 7), rfl, by decide, gT_of (List.mem_of_getElem? (i := 110) (by decide +kernel)) rfl⟩, rfl⟩, trivial, ⟨_, _, _, rfl, ⟨(RX4, TX4, 6), rfl, by decide, gT_of (List.mem_of_getElem? (i := 143) (by decide +kernel)) rfl⟩, rfl⟩, trivial, trivial, trivial, ⟨_, _, _, rfl, ⟨(RX4, TX4, 6), rfl, by decide, gT_of (List.mem_of_getElem? (i := 143) (by decide +kernel)) rfl⟩, rfl⟩, trivial, trivial, trivial, trivial, trivial⟩
theorem b_X4_carryOut_0 : atL L_X4_carryOut 0 = L_X4_carryOut_0 := rfl
theorem b_X4_carryOut_40 : atL L_X4_carryOut 40 = L_X4_carryOut_40 := rfl
theorem b_X4_carryOut_67 : atL L_X4_carryOut 67 = L_X4_carryOut_67 := rfl
theorem b_X4_carryOut_99 : atL L_X4_carryOut 99 = L_X4_carryOut_99 := rfl
theorem b_X4_carryOut_122 : atL L_X4_carryOut 122 = L_X4_carryOut_122 := rfl
theorem b_X4_carryOut_135 : atL L_X4_carryOut 135 = L_X4_carryOut_135 := rfl
theorem b_X4_carryOut_148 : atL L_X4_carryOut 148 = L_X4_carryOut_148 := rfl
theorem b_X4_carryOut_161 : atL L_X4_carryOut 161 = L_X4_carryOut_161 := rfl
theorem b_X4_carryOut_178 : atL L_X4_carryOut 178 = L_X4_carryOut_178 := rfl
theorem a_X4_carryOut_40 : afw L_X4_carryOut [] 40 = L_X4_carryOut_40 := rfl
theorem a_X4_carryOut_67 : afw L_X4_carryOut [] 67 = L_X4_carryOut_67 := rfl
theorem a_X4_carryOut_99 : afw L_X4_carryOut [] 99 = L_X4_carryOut_99 := rfl
theorem a_X4_carryOut_122 : afw L_X4_carryOut [] 122 = L_X4_carryOut_122 := rfl
theorem a_X4_carryOut_135 : afw L_X4_carryOut [] 135 = L_X4_carryOut_135 := rfl
theorem a_X4_carryOut_148 : afw L_X4_carryOut [] 148 = L_X4_carryOut_148 := rfl
theorem a_X4_carryOut_161 : afw L_X4_carryOut [] 161 = L_X4_carryOut_161 := rfl
theorem a_X4_carryOut_178 : afw L_X4_carryOut [] 178 = L_X4_carryOut_178 := rfl
theorem yv_X4_carryOut : YV yX4_carryOut cX4_carryOut 3 none 2 4 := ⟨⟨gT_of (List.mem_of_getElem? (i := 424) (by decide +kernel)) rfl, gT_of (List.mem_of_getElem? (i := 29) (by decide +kernel)) rfl, ⟨by decide, by decide⟩, by decide +kernel, by decide⟩, gT_of (List.mem_of_getElem? (i := 423) (by decide +kernel)) rfl, gT_of (List.mem_of_getElem? (i := 10) (by decide +kernel)) rfl, rfl⟩
theorem u_X4_carryOut_0 : L_X4_carryOut_0 = (0, .iload_n 1, [], nS) :: (1, .tableswitch 160 0 5 #[39, 66, 98, 121, 134, 147], [40, 67, 99, 122, 135, 148, 161], nS) :: L_X4_carryOut_40 := nr rfl
theorem u_X4_carryOut_40 : L_X4_carryOut_40 = (40, .aload_n 2, [], nS) :: (41, .aload_n 0, [], nS) :: (42, .getfield 15, [4, 5, 1], nS) :: (45, .iconst 0, [], nS) :: (46, .iaload, [], nS) :: (47, .aload_n 0, [], nS) :: (48, .getfield 15, [4, 5, 1], nS) :: (51, .iconst 1, [], nS) :: (52, .iaload, [], nS) :: (53, .aload_n 0, [], nS) :: (54, .getfield 15, [4, 5, 1], nS) :: (57, .iconst 2, [], nS) :: (58, .iaload, [], nS) :: (59, .iconst (-1), [], nS) :: (60, .invokevirtual 67, [4, 0, 0, 0], S_X0_addHeir) :: (63, .pop, [], nS) :: (64, .goto 114, [178], nS) :: L_X4_carryOut_67 := nr rfl
theorem u_X4_carryOut_67 : L_X4_carryOut_67 = (67, .aload_n 2, [], nS) :: (68, .aload_n 0, [], nS) :: (69, .getfield 15, [4, 5, 1], nS) :: (72, .iconst 0, [], nS) :: (73, .iaload, [], nS) :: (74, .aload_n 0, [], nS) :: (75, .getfield 15, [4, 5, 1], nS) :: (78, .iconst 1, [], nS) :: (79, .iaload, [], nS) :: (80, .aload_n 0, [], nS) :: (81, .getfield 15, [4, 5, 1], nS) :: (84, .iconst 2, [], nS) :: (85, .iaload, [], nS) :: (86, .aload_n 0, [], nS) :: (87, .getfield 15, [4, 5, 1], nS) :: (90, .iconst 3, [], nS) :: (91, .iaload, [], nS) :: (92, .invokevirtual 67, [4, 0, 0, 0], S_X0_addHeir) :: (95, .pop, [], nS) :: (96, .goto 82, [178], nS) :: L_X4_carryOut_99 := nr rfl
theorem u_X4_carryOut_99 : L_X4_carryOut_99 = (99, .aload_n 2, [], nS) :: (100, .getfield 71, [0, 6, 1], nS) :: (103, .aload_n 0, [], nS) :: (104, .getfield 15, [4, 5, 1], nS) :: (107, .iconst 0, [], nS) :: (108, .iaload, [], nS) :: (109, .aaload, [], nS) :: (110, .aload_n 0, [], nS) :: (111, .getfield 15, [4, 5, 1], nS) :: (114, .iconst 1, [], nS) :: (115, .iaload, [], nS) :: (116, .putfield 75, [1, 4, 0], nS) :: (119, .goto 59, [178], nS) :: L_X4_carryOut_122 := nr rfl
theorem u_X4_carryOut_122 : L_X4_carryOut_122 = (122, .aload_n 2, [], nS) :: (123, .aload_n 0, [], nS) :: (124, .getfield 15, [4, 5, 1], nS) :: (127, .iconst 0, [], nS) :: (128, .iaload, [], nS) :: (129, .putfield 80, [0, 0, 0], nS) :: (132, .goto 46, [178], nS) :: L_X4_carryOut_135 := nr rfl
theorem u_X4_carryOut_135 : L_X4_carryOut_135 = (135, .aload_n 2, [], nS) :: (136, .aload_n 0, [], nS) :: (137, .getfield 15, [4, 5, 1], nS) :: (140, .iconst 0, [], nS) :: (141, .iaload, [], nS) :: (142, .putfield 83, [0, 1, 0], nS) :: (145, .goto 33, [178], nS) :: L_X4_carryOut_148 := nr rfl
theorem u_X4_carryOut_148 : L_X4_carryOut_148 = (148, .aload_n 2, [], nS) :: (149, .aload_n 0, [], nS) :: (150, .getfield 15, [4, 5, 1], nS) :: (153, .iconst 0, [], nS) :: (154, .iaload, [], nS) :: (155, .putfield 86, [0, 2, 0], nS) :: (158, .goto 20, [178], nS) :: L_X4_carryOut_161 := nr rfl
theorem u_X4_carryOut_161 : L_X4_carryOut_161 = (161, .aload_n 2, [], nS) :: (162, .getfield 89, [0, 5, 1], nS) :: (165, .aload_n 0, [], nS) :: (166, .getfield 15, [4, 5, 1], nS) :: (169, .iconst 0, [], nS) :: (170, .iaload, [], nS) :: (171, .aload_n 0, [], nS) :: (172, .getfield 15, [4, 5, 1], nS) :: (175, .iconst 1, [], nS) :: (176, .iaload, [], nS) :: (177, .iastore, [], nS) :: L_X4_carryOut_178 := nr rfl
theorem u_X4_carryOut_178 : L_X4_carryOut_178 = (178, .return_, [], nS) :: [] := nr rfl
theorem z_X4_carryOut_0 : atL L_X4_carryOut 0 = L_X4_carryOut_0 := nr rfl
theorem z_X4_carryOut_40 : atL L_X4_carryOut 40 = L_X4_carryOut_40 := nr rfl
theorem z_X4_carryOut_67 : atL L_X4_carryOut 67 = L_X4_carryOut_67 := nr rfl
theorem z_X4_carryOut_99 : atL L_X4_carryOut 99 = L_X4_carryOut_99 := nr rfl
theorem z_X4_carryOut_122 : atL L_X4_carryOut 122 = L_X4_carryOut_122 := nr rfl
theorem z_X4_carryOut_135 : atL L_X4_carryOut 135 = L_X4_carryOut_135 := nr rfl
theorem z_X4_carryOut_148 : atL L_X4_carryOut 148 = L_X4_carryOut_148 := nr rfl
set_option maxRecDepth 100000 in
theorem z_X4_carryOut_161 : atL L_X4_carryOut 161 = L_X4_carryOut_161 := nr rfl
set_option maxRecDepth 100000 in
theorem z_X4_carryOut_178 : atL L_X4_carryOut 178 = L_X4_carryOut_178 := nr rfl
theorem j_X4_carryOut_40 {G : List Item → SpS → List Value → List Value → AH → Prop} {J : Nat → SpS → List Value → List Value → AH → Prop} {S : SpS} {lv st : List Value} {h : AH} : jmp G J (afw L_X4_carryOut [] 40) 40 S lv st h = G L_X4_carryOut_40 S lv st h := nr rfl
theorem j_X4_carryOut_67 {G : List Item → SpS → List Value → List Value → AH → Prop} {J : Nat → SpS → List Value → List Value → AH → Prop} {S : SpS} {lv st : List Value} {h : AH} : jmp G J (afw L_X4_carryOut [] 67) 67 S lv st h = G L_X4_carryOut_67 S lv st h := nr rfl
theorem j_X4_carryOut_99 {G : List Item → SpS → List Value → List Value → AH → Prop} {J : Nat → SpS → List Value → List Value → AH → Prop} {S : SpS} {lv st : List Value} {h : AH} : jmp G J (afw L_X4_carryOut [] 99) 99 S lv st h = G L_X4_carryOut_99 S lv st h := nr rfl
theorem j_X4_carryOut_122 {G : List Item → SpS → List Value → List Value → AH → Prop} {J : Nat → SpS → List Value → List Value → AH → Prop} {S : SpS} {lv st : List Value} {h : AH} : jmp G J (afw L_X4_carryOut [] 122) 122 S lv st h = G L_X4_carryOut_122 S lv st h := nr rfl
theorem j_X4_carryOut_135 {G : List Item → SpS → List Value → List Value → AH → Prop} {J : Nat → SpS → List Value → List Value → AH → Prop} {S : SpS} {lv st : List Value} {h : AH} : jmp G J (afw L_X4_carryOut [] 135) 135 S lv st h = G L_X4_carryOut_135 S lv st h := nr rfl
theorem j_X4_carryOut_148 {G : List Item → SpS → List Value → List Value → AH → Prop} {J : Nat → SpS → List Value → List Value → AH → Prop} {S : SpS} {lv st : List Value} {h : AH} : jmp G J (afw L_X4_carryOut [] 148) 148 S lv st h = G L_X4_carryOut_148 S lv st h := nr rfl
set_option maxRecDepth 100000 in
theorem j_X4_carryOut_161 {G : List Item → SpS → List Value → List Value → AH → Prop} {J : Nat → SpS → List Value → List Value → AH → Prop} {S : SpS} {lv st : List Value} {h : AH} : jmp G J (afw L_X4_carryOut [] 161) 161 S lv st h = G L_X4_carryOut_161 S lv st h := nr rfl
set_option maxRecDepth 100000 in
theorem j_X4_carryOut_178 {G : List Item → SpS → List Value → List Value → AH → Prop} {J : Nat → SpS → List Value → List Value → AH → Prop} {S : SpS} {lv st : List Value} {h : AH} : jmp G J (afw L_X4_carryOut [] 178) 178 S lv st h = G L_X4_carryOut_178 S lv st h := nr rfl
theorem e_X4_carryOut {c : Addr} {w : Int32} {b : Addr} {h : AH} {K2 : Option Value → SpS → AH → Prop} : S_X4_carryOut (SHn nn) [.ref c, .int w, .ref b] h K2 = (fun (K : Option Value → AH → Prop) => c = 40 ∧ b = 14 ∧ okE (est h 14) ∧ ∃ d : Nat, d < 7 ∧ w = nI d ∧ okW (est h 14) d (gI h 42) ∧ ∀ h', est h' 14 = doE (est h 14) (nI d) (gI h 42) → frE 14 h h' → K none h') (fun v h' => K2 v (SHn nn) h') := (lift_e P_X4_carryOut [.ref c, .int w, .ref b] h K2).trans (nr rfl)
set_option maxRecDepth 100000 in
set_option maxHeartbeats 4000000 in
theorem c_X4_carryOut (l : Launch) : Ct l yX4_carryOut cX4_carryOut 3 none 3 0 0 S_X4_carryOut := by
  refine Ct0_mk L_X4_carryOut [] (by decide +kernel) (by decide) ok_X4_carryOut (lk_X4_carryOut l) ?_
  intro nn as h K hP
  match as, hP with
  | [.ref c, .int w, .ref b], ⟨hc, hb, ho, d, hd, hw, hW, hK⟩ =>
  refine ⟨by simp [slotsN, Value.category], fun J hJ => ?_⟩
  subst hc hb hw
  rcases (show d = 0 ∨ d = 1 ∨ d = 2 ∨ d = 3 ∨ d = 4 ∨ d = 5 ∨ d = 6 by omega) with rfl | rfl | rfl | rfl | rfl | rfl | rfl
  · refine hJ 0 _ _ _ _ ?_
    simp only [z_X4_carryOut_0, u_X4_carryOut_0, u_X4_carryOut_40, u_X4_carryOut_67, u_X4_carryOut_99, u_X4_carryOut_122, u_X4_carryOut_135, u_X4_carryOut_148, u_X4_carryOut_161, u_X4_carryOut_178, j_X4_carryOut_40, j_X4_carryOut_67, j_X4_carryOut_99, j_X4_carryOut_122, j_X4_carryOut_135, j_X4_carryOut_148, j_X4_carryOut_161, j_X4_carryOut_178, ev_iload_n1, ev_tableswitch, ev_sw1, ev_swc, ev_aload_n2, ev_aload_n0, ev_getfR, ev_iconst, ev_iaload, ev_callV4, ev_pop_int, ev_pop_ref, ev_goto, ev_aaload, ev_putfI, ev_iastore, ev_vret, ↓e_X0_addHeir, capO_z, kb_6, kb_11, kb_13, kb_15, kb_17, kb_18, kb_19, kb_23, kb_24, kb_25, kb_26, kb_29, kb_31, kb_35, kb_37, kb_41, kb_43, kb_44, kb_61, kb_75, kb_104, kb_7, kb_8, kb_9, kb_10, kb_12, kb_16, kb_20, kb_21, kb_30, kb_32, kb_40, kb_48, kb_50, kb_57, kb_59, kb_60, kb_63, kb_70, kb_78, kb_81, kb_82, kb_84, kb_97, kb_99, kb_100, kb_101, kb_119, kb_120, kb_122, ki_m1, ki_0, ki_1, ki_2, ki_3, ki_4, ki_5, ki_6, ki_7, ki_8, ki_9, ki_10, ki_11, ki_12, ki_13, ki_14, ki_15, ki_16, ki_17, ki_18, ki_19, ki_20, ki_21, ki_22, ki_23, ki_24, ki_25, ki_26, ki_27, ki_28, ki_29, ki_30, ki_31, ki_32, ki_33, ki_34, ki_35, ki_36, ki_37, ki_38, ki_39, ki_40, ki_41, ki_42, ki_43, ki_44, ki_45, ki_46, ki_47, ki_48, ki_49, ki_50, ki_51, ki_52, ki_53, ki_54, ki_55, ki_56, ki_57, ki_58, ki_59, ki_60, ki_61, ki_62, ki_63, ks_m2000, ks_m1006, ks_m1005, ks_m1004, ks_m1003, ks_m1002, ks_m1000, ks_200, ks_201, ks_300, ks_720, ks_9000, ks_10000, ks_250, ks_255, ks_256, ks_320, ks_660, ks_999, ks_1000, ks_9999, ks_12345, ne_2, ne_10, t_0, t_40, t_41, t_42, t_43, t_44, t_45, t_46, t_47, r_0_0, r_0_1, r_0_2, r_0_4, r_0_5, r_0_6, r_0_7, r_40_0, r_40_5, r_44_0, r_44_1, t_1, t_14, t_27, t_2, t_15, t_28, t_64, Nat.reduceEqDiff, ne_eq, not_false_eq_true, false_implies, true_implies, implies_true, Nat.reduceAdd, Nat.reduceLeDiff, Nat.reduceLT, Nat.reduceMul, or_true, true_or, if_true, if_false, not_true_eq_false, and_self, bF, Nat.reduceBEq, Bool.false_and, Bool.and_false, Bool.or_self, Bool.or_false, Bool.false_or, Bool.false_eq_true, Int.reduceAdd, Bool.and_self, Bool.true_and, Bool.and_true, beq_self_eq_true, not_not_, i10_, i01_, List.length_nil, List.length_cons, true_and, and_true, false_and, and_false, kl_i, kl_a, kl_n, kl_l, tl_s, tl_n, rv_S, pd_0, pd_e, pd_r, pd_i, pd_l, nk_0_0, nk_0_1, nk_0_2, nk_0_3, nk_0_4, nk_0_5, vq4_0, vq4_1, vq4_2, vq4_3, cq_0, cq_1, cq_2, cq_3]
    refine ⟨isE14, ho, fun z => absurd (hW.1 (by omega)) z, fun _ h' e f => hK h' e f⟩
  · refine hJ 0 _ _ _ _ ?_
    simp only [z_X4_carryOut_0, u_X4_carryOut_0, u_X4_carryOut_40, u_X4_carryOut_67, u_X4_carryOut_99, u_X4_carryOut_122, u_X4_carryOut_135, u_X4_carryOut_148, u_X4_carryOut_161, u_X4_carryOut_178, j_X4_carryOut_40, j_X4_carryOut_67, j_X4_carryOut_99, j_X4_carryOut_122, j_X4_carryOut_135, j_X4_carryOut_148, j_X4_carryOut_161, j_X4_carryOut_178, ev_iload_n1, ev_tableswitch, ev_sw1, ev_swc, ev_aload_n2, ev_aload_n0, ev_getfR, ev_iconst, ev_iaload, ev_callV4, ev_pop_int, ev_pop_ref, ev_goto, ev_aaload, ev_putfI, ev_iastore, ev_vret, ↓e_X0_addHeir, capO_z, kb_6, kb_11, kb_13, kb_15, kb_17, kb_18, kb_19, kb_23, kb_24, kb_25, kb_26, kb_29, kb_31, kb_35, kb_37, kb_41, kb_43, kb_44, kb_61, kb_75, kb_104, kb_7, kb_8, kb_9, kb_10, kb_12, kb_16, kb_20, kb_21, kb_30, kb_32, kb_40, kb_48, kb_50, kb_57, kb_59, kb_60, kb_63, kb_70, kb_78, kb_81, kb_82, kb_84, kb_97, kb_99, kb_100, kb_101, kb_119, kb_120, kb_122, ki_m1, ki_0, ki_1, ki_2, ki_3, ki_4, ki_5, ki_6, ki_7, ki_8, ki_9, ki_10, ki_11, ki_12, ki_13, ki_14, ki_15, ki_16, ki_17, ki_18, ki_19, ki_20, ki_21, ki_22, ki_23, ki_24, ki_25, ki_26, ki_27, ki_28, ki_29, ki_30, ki_31, ki_32, ki_33, ki_34, ki_35, ki_36, ki_37, ki_38, ki_39, ki_40, ki_41, ki_42, ki_43, ki_44, ki_45, ki_46, ki_47, ki_48, ki_49, ki_50, ki_51, ki_52, ki_53, ki_54, ki_55, ki_56, ki_57, ki_58, ki_59, ki_60, ki_61, ki_62, ki_63, ks_m2000, ks_m1006, ks_m1005, ks_m1004, ks_m1003, ks_m1002, ks_m1000, ks_200, ks_201, ks_300, ks_720, ks_9000, ks_10000, ks_250, ks_255, ks_256, ks_320, ks_660, ks_999, ks_1000, ks_9999, ks_12345, ne_2, ne_10, t_0, t_40, t_41, t_42, t_43, t_44, t_45, t_46, t_47, r_0_0, r_0_1, r_0_2, r_0_4, r_0_5, r_0_6, r_0_7, r_40_0, r_40_5, r_44_0, r_44_1, t_1, t_14, t_27, t_2, t_15, t_28, t_64, Nat.reduceEqDiff, ne_eq, not_false_eq_true, false_implies, true_implies, implies_true, Nat.reduceAdd, Nat.reduceLeDiff, Nat.reduceLT, Nat.reduceMul, or_true, true_or, if_true, if_false, not_true_eq_false, and_self, bF, Nat.reduceBEq, Bool.false_and, Bool.and_false, Bool.or_self, Bool.or_false, Bool.false_or, Bool.false_eq_true, Int.reduceAdd, Bool.and_self, Bool.true_and, Bool.and_true, beq_self_eq_true, not_not_, i10_, i01_, List.length_nil, List.length_cons, true_and, and_true, false_and, and_false, kl_i, kl_a, kl_n, kl_l, tl_s, tl_n, rv_S, pd_0, pd_e, pd_r, pd_i, pd_l, nk_1_0, nk_1_1, nk_1_2, nk_1_3, nk_1_4, nk_1_5, vq4_0, vq4_1, vq4_2, vq4_3, cq_0, cq_1, cq_2, cq_3]
    refine ⟨isE14, ho, fun z => absurd (hW.1 (by omega)) z, fun _ h' e f => hK h' e f⟩
  · obtain ⟨i, hi, ei⟩ := okW_has ho hW
    have hi10 : i < 10 := by have := ho.2.1; omega
    have c4 := est_c ho
    refine hJ 0 _ _ _ _ ?_
    simp only [z_X4_carryOut_0, u_X4_carryOut_0, u_X4_carryOut_40, u_X4_carryOut_67, u_X4_carryOut_99, u_X4_carryOut_122, u_X4_carryOut_135, u_X4_carryOut_148, u_X4_carryOut_161, u_X4_carryOut_178, j_X4_carryOut_40, j_X4_carryOut_67, j_X4_carryOut_99, j_X4_carryOut_122, j_X4_carryOut_135, j_X4_carryOut_148, j_X4_carryOut_161, j_X4_carryOut_178, ev_iload_n1, ev_tableswitch, ev_sw1, ev_swc, ev_aload_n2, ev_aload_n0, ev_getfR, ev_iconst, ev_iaload, ev_callV4, ev_pop_int, ev_pop_ref, ev_goto, ev_aaload, ev_putfI, ev_iastore, ev_vret, ↓e_X0_addHeir, capO_z, kb_6, kb_11, kb_13, kb_15, kb_17, kb_18, kb_19, kb_23, kb_24, kb_25, kb_26, kb_29, kb_31, kb_35, kb_37, kb_41, kb_43, kb_44, kb_61, kb_75, kb_104, kb_7, kb_8, kb_9, kb_10, kb_12, kb_16, kb_20, kb_21, kb_30, kb_32, kb_40, kb_48, kb_50, kb_57, kb_59, kb_60, kb_63, kb_70, kb_78, kb_81, kb_82, kb_84, kb_97, kb_99, kb_100, kb_101, kb_119, kb_120, kb_122, ki_m1, ki_0, ki_1, ki_2, ki_3, ki_4, ki_5, ki_6, ki_7, ki_8, ki_9, ki_10, ki_11, ki_12, ki_13, ki_14, ki_15, ki_16, ki_17, ki_18, ki_19, ki_20, ki_21, ki_22, ki_23, ki_24, ki_25, ki_26, ki_27, ki_28, ki_29, ki_30, ki_31, ki_32, ki_33, ki_34, ki_35, ki_36, ki_37, ki_38, ki_39, ki_40, ki_41, ki_42, ki_43, ki_44, ki_45, ki_46, ki_47, ki_48, ki_49, ki_50, ki_51, ki_52, ki_53, ki_54, ki_55, ki_56, ki_57, ki_58, ki_59, ki_60, ki_61, ki_62, ki_63, ks_m2000, ks_m1006, ks_m1005, ks_m1004, ks_m1003, ks_m1002, ks_m1000, ks_200, ks_201, ks_300, ks_720, ks_9000, ks_10000, ks_250, ks_255, ks_256, ks_320, ks_660, ks_999, ks_1000, ks_9999, ks_12345, ne_2, ne_10, t_0, t_40, t_41, t_42, t_43, t_44, t_45, t_46, t_47, r_0_0, r_0_1, r_0_2, r_0_4, r_0_5, r_0_6, r_0_7, r_40_0, r_40_5, r_44_0, r_44_1, t_1, t_14, t_27, t_2, t_15, t_28, t_64, Nat.reduceEqDiff, ne_eq, not_false_eq_true, false_implies, true_implies, implies_true, Nat.reduceAdd, Nat.reduceLeDiff, Nat.reduceLT, Nat.reduceMul, or_true, true_or, if_true, if_false, not_true_eq_false, and_self, bF, Nat.reduceBEq, Bool.false_and, Bool.and_false, Bool.or_self, Bool.or_false, Bool.false_or, Bool.false_eq_true, Int.reduceAdd, Bool.and_self, Bool.true_and, Bool.and_true, beq_self_eq_true, not_not_, i10_, i01_, List.length_nil, List.length_cons, true_and, and_true, false_and, and_false, kl_i, kl_a, kl_n, kl_l, tl_s, tl_n, rv_S, pd_0, pd_e, pd_r, pd_i, pd_l, nk_2_0, nk_2_1, nk_2_2, nk_2_3, nk_2_4, nk_2_5, vq4_0, vq4_1, vq4_2, vq4_3, cq_0, cq_1, cq_2, cq_3, ei, c4, tE isE14, tE2 isE14, rE6 isE14, rEH isE14 hi10, tEH isE14 hi10, vp10 hi10, nI_10 hi10]
    exact hK _ ((est_pF (h := h) (b := 14) hi (by omega)).trans (show _ = sF (est h 14) (ix (gI h 42 0)) 4 (gI h 42 1) by rw [ei, ix_m (j := i) (by omega)])) (frE_p (frE_rf 14 h) (by omega))
  · refine hJ 0 _ _ _ _ ?_
    simp only [z_X4_carryOut_0, u_X4_carryOut_0, u_X4_carryOut_40, u_X4_carryOut_67, u_X4_carryOut_99, u_X4_carryOut_122, u_X4_carryOut_135, u_X4_carryOut_148, u_X4_carryOut_161, u_X4_carryOut_178, j_X4_carryOut_40, j_X4_carryOut_67, j_X4_carryOut_99, j_X4_carryOut_122, j_X4_carryOut_135, j_X4_carryOut_148, j_X4_carryOut_161, j_X4_carryOut_178, ev_iload_n1, ev_tableswitch, ev_sw1, ev_swc, ev_aload_n2, ev_aload_n0, ev_getfR, ev_iconst, ev_iaload, ev_callV4, ev_pop_int, ev_pop_ref, ev_goto, ev_aaload, ev_putfI, ev_iastore, ev_vret, ↓e_X0_addHeir, capO_z, kb_6, kb_11, kb_13, kb_15, kb_17, kb_18, kb_19, kb_23, kb_24, kb_25, kb_26, kb_29, kb_31, kb_35, kb_37, kb_41, kb_43, kb_44, kb_61, kb_75, kb_104, kb_7, kb_8, kb_9, kb_10, kb_12, kb_16, kb_20, kb_21, kb_30, kb_32, kb_40, kb_48, kb_50, kb_57, kb_59, kb_60, kb_63, kb_70, kb_78, kb_81, kb_82, kb_84, kb_97, kb_99, kb_100, kb_101, kb_119, kb_120, kb_122, ki_m1, ki_0, ki_1, ki_2, ki_3, ki_4, ki_5, ki_6, ki_7, ki_8, ki_9, ki_10, ki_11, ki_12, ki_13, ki_14, ki_15, ki_16, ki_17, ki_18, ki_19, ki_20, ki_21, ki_22, ki_23, ki_24, ki_25, ki_26, ki_27, ki_28, ki_29, ki_30, ki_31, ki_32, ki_33, ki_34, ki_35, ki_36, ki_37, ki_38, ki_39, ki_40, ki_41, ki_42, ki_43, ki_44, ki_45, ki_46, ki_47, ki_48, ki_49, ki_50, ki_51, ki_52, ki_53, ki_54, ki_55, ki_56, ki_57, ki_58, ki_59, ki_60, ki_61, ki_62, ki_63, ks_m2000, ks_m1006, ks_m1005, ks_m1004, ks_m1003, ks_m1002, ks_m1000, ks_200, ks_201, ks_300, ks_720, ks_9000, ks_10000, ks_250, ks_255, ks_256, ks_320, ks_660, ks_999, ks_1000, ks_9999, ks_12345, ne_2, ne_10, t_0, t_40, t_41, t_42, t_43, t_44, t_45, t_46, t_47, r_0_0, r_0_1, r_0_2, r_0_4, r_0_5, r_0_6, r_0_7, r_40_0, r_40_5, r_44_0, r_44_1, t_1, t_14, t_27, t_2, t_15, t_28, t_64, Nat.reduceEqDiff, ne_eq, not_false_eq_true, false_implies, true_implies, implies_true, Nat.reduceAdd, Nat.reduceLeDiff, Nat.reduceLT, Nat.reduceMul, or_true, true_or, if_true, if_false, not_true_eq_false, and_self, bF, Nat.reduceBEq, Bool.false_and, Bool.and_false, Bool.or_self, Bool.or_false, Bool.false_or, Bool.false_eq_true, Int.reduceAdd, Bool.and_self, Bool.true_and, Bool.and_true, beq_self_eq_true, not_not_, i10_, i01_, List.length_nil, List.length_cons, true_and, and_true, false_and, and_false, kl_i, kl_a, kl_n, kl_l, tl_s, tl_n, rv_S, pd_0, pd_e, pd_r, pd_i, pd_l, nk_3_0, nk_3_1, nk_3_2, nk_3_3, nk_3_4, nk_3_5, vq4_0, vq4_1, vq4_2, vq4_3, cq_0, cq_1, cq_2, cq_3]
    exact hK _ (est_pS (h := h) (b := 14) (k := 0) (by omega)) (frE_p (frE_rf 14 h) (by omega))
  · refine hJ 0 _ _ _ _ ?_
    simp only [z_X4_carryOut_0, u_X4_carryOut_0, u_X4_carryOut_40, u_X4_carryOut_67, u_X4_carryOut_99, u_X4_carryOut_122, u_X4_carryOut_135, u_X4_carryOut_148, u_X4_carryOut_161, u_X4_carryOut_178, j_X4_carryOut_40, j_X4_carryOut_67, j_X4_carryOut_99, j_X4_carryOut_122, j_X4_carryOut_135, j_X4_carryOut_148, j_X4_carryOut_161, j_X4_carryOut_178, ev_iload_n1, ev_tableswitch, ev_sw1, ev_swc, ev_aload_n2, ev_aload_n0, ev_getfR, ev_iconst, ev_iaload, ev_callV4, ev_pop_int, ev_pop_ref, ev_goto, ev_aaload, ev_putfI, ev_iastore, ev_vret, ↓e_X0_addHeir, capO_z, kb_6, kb_11, kb_13, kb_15, kb_17, kb_18, kb_19, kb_23, kb_24, kb_25, kb_26, kb_29, kb_31, kb_35, kb_37, kb_41, kb_43, kb_44, kb_61, kb_75, kb_104, kb_7, kb_8, kb_9, kb_10, kb_12, kb_16, kb_20, kb_21, kb_30, kb_32, kb_40, kb_48, kb_50, kb_57, kb_59, kb_60, kb_63, kb_70, kb_78, kb_81, kb_82, kb_84, kb_97, kb_99, kb_100, kb_101, kb_119, kb_120, kb_122, ki_m1, ki_0, ki_1, ki_2, ki_3, ki_4, ki_5, ki_6, ki_7, ki_8, ki_9, ki_10, ki_11, ki_12, ki_13, ki_14, ki_15, ki_16, ki_17, ki_18, ki_19, ki_20, ki_21, ki_22, ki_23, ki_24, ki_25, ki_26, ki_27, ki_28, ki_29, ki_30, ki_31, ki_32, ki_33, ki_34, ki_35, ki_36, ki_37, ki_38, ki_39, ki_40, ki_41, ki_42, ki_43, ki_44, ki_45, ki_46, ki_47, ki_48, ki_49, ki_50, ki_51, ki_52, ki_53, ki_54, ki_55, ki_56, ki_57, ki_58, ki_59, ki_60, ki_61, ki_62, ki_63, ks_m2000, ks_m1006, ks_m1005, ks_m1004, ks_m1003, ks_m1002, ks_m1000, ks_200, ks_201, ks_300, ks_720, ks_9000, ks_10000, ks_250, ks_255, ks_256, ks_320, ks_660, ks_999, ks_1000, ks_9999, ks_12345, ne_2, ne_10, t_0, t_40, t_41, t_42, t_43, t_44, t_45, t_46, t_47, r_0_0, r_0_1, r_0_2, r_0_4, r_0_5, r_0_6, r_0_7, r_40_0, r_40_5, r_44_0, r_44_1, t_1, t_14, t_27, t_2, t_15, t_28, t_64, Nat.reduceEqDiff, ne_eq, not_false_eq_true, false_implies, true_implies, implies_true, Nat.reduceAdd, Nat.reduceLeDiff, Nat.reduceLT, Nat.reduceMul, or_true, true_or, if_true, if_false, not_true_eq_false, and_self, bF, Nat.reduceBEq, Bool.false_and, Bool.and_false, Bool.or_self, Bool.or_false, Bool.false_or, Bool.false_eq_true, Int.reduceAdd, Bool.and_self, Bool.true_and, Bool.and_true, beq_self_eq_true, not_not_, i10_, i01_, List.length_nil, List.length_cons, true_and, and_true, false_and, and_false, kl_i, kl_a, kl_n, kl_l, tl_s, tl_n, rv_S, pd_0, pd_e, pd_r, pd_i, pd_l, nk_4_0, nk_4_1, nk_4_2, nk_4_3, nk_4_4, nk_4_5, vq4_0, vq4_1, vq4_2, vq4_3, cq_0, cq_1, cq_2, cq_3]
    exact hK _ (est_pS (h := h) (b := 14) (k := 1) (by omega)) (frE_p (frE_rf 14 h) (by omega))
  · refine hJ 0 _ _ _ _ ?_
    simp only [z_X4_carryOut_0, u_X4_carryOut_0, u_X4_carryOut_40, u_X4_carryOut_67, u_X4_carryOut_99, u_X4_carryOut_122, u_X4_carryOut_135, u_X4_carryOut_148, u_X4_carryOut_161, u_X4_carryOut_178, j_X4_carryOut_40, j_X4_carryOut_67, j_X4_carryOut_99, j_X4_carryOut_122, j_X4_carryOut_135, j_X4_carryOut_148, j_X4_carryOut_161, j_X4_carryOut_178, ev_iload_n1, ev_tableswitch, ev_sw1, ev_swc, ev_aload_n2, ev_aload_n0, ev_getfR, ev_iconst, ev_iaload, ev_callV4, ev_pop_int, ev_pop_ref, ev_goto, ev_aaload, ev_putfI, ev_iastore, ev_vret, ↓e_X0_addHeir, capO_z, kb_6, kb_11, kb_13, kb_15, kb_17, kb_18, kb_19, kb_23, kb_24, kb_25, kb_26, kb_29, kb_31, kb_35, kb_37, kb_41, kb_43, kb_44, kb_61, kb_75, kb_104, kb_7, kb_8, kb_9, kb_10, kb_12, kb_16, kb_20, kb_21, kb_30, kb_32, kb_40, kb_48, kb_50, kb_57, kb_59, kb_60, kb_63, kb_70, kb_78, kb_81, kb_82, kb_84, kb_97, kb_99, kb_100, kb_101, kb_119, kb_120, kb_122, ki_m1, ki_0, ki_1, ki_2, ki_3, ki_4, ki_5, ki_6, ki_7, ki_8, ki_9, ki_10, ki_11, ki_12, ki_13, ki_14, ki_15, ki_16, ki_17, ki_18, ki_19, ki_20, ki_21, ki_22, ki_23, ki_24, ki_25, ki_26, ki_27, ki_28, ki_29, ki_30, ki_31, ki_32, ki_33, ki_34, ki_35, ki_36, ki_37, ki_38, ki_39, ki_40, ki_41, ki_42, ki_43, ki_44, ki_45, ki_46, ki_47, ki_48, ki_49, ki_50, ki_51, ki_52, ki_53, ki_54, ki_55, ki_56, ki_57, ki_58, ki_59, ki_60, ki_61, ki_62, ki_63, ks_m2000, ks_m1006, ks_m1005, ks_m1004, ks_m1003, ks_m1002, ks_m1000, ks_200, ks_201, ks_300, ks_720, ks_9000, ks_10000, ks_250, ks_255, ks_256, ks_320, ks_660, ks_999, ks_1000, ks_9999, ks_12345, ne_2, ne_10, t_0, t_40, t_41, t_42, t_43, t_44, t_45, t_46, t_47, r_0_0, r_0_1, r_0_2, r_0_4, r_0_5, r_0_6, r_0_7, r_40_0, r_40_5, r_44_0, r_44_1, t_1, t_14, t_27, t_2, t_15, t_28, t_64, Nat.reduceEqDiff, ne_eq, not_false_eq_true, false_implies, true_implies, implies_true, Nat.reduceAdd, Nat.reduceLeDiff, Nat.reduceLT, Nat.reduceMul, or_true, true_or, if_true, if_false, not_true_eq_false, and_self, bF, Nat.reduceBEq, Bool.false_and, Bool.and_false, Bool.or_self, Bool.or_false, Bool.false_or, Bool.false_eq_true, Int.reduceAdd, Bool.and_self, Bool.true_and, Bool.and_true, beq_self_eq_true, not_not_, i10_, i01_, List.length_nil, List.length_cons, true_and, and_true, false_and, and_false, kl_i, kl_a, kl_n, kl_l, tl_s, tl_n, rv_S, pd_0, pd_e, pd_r, pd_i, pd_l, nk_5_0, nk_5_1, nk_5_2, nk_5_3, nk_5_4, nk_5_5, vq4_0, vq4_1, vq4_2, vq4_3, cq_0, cq_1, cq_2, cq_3]
    exact hK _ (est_pS (h := h) (b := 14) (k := 2) (by omega)) (frE_p (frE_rf 14 h) (by omega))
  · obtain ⟨i, hi, ei⟩ := okW_joy hW
    refine hJ 0 _ _ _ _ ?_
    simp only [z_X4_carryOut_0, u_X4_carryOut_0, u_X4_carryOut_40, u_X4_carryOut_67, u_X4_carryOut_99, u_X4_carryOut_122, u_X4_carryOut_135, u_X4_carryOut_148, u_X4_carryOut_161, u_X4_carryOut_178, j_X4_carryOut_40, j_X4_carryOut_67, j_X4_carryOut_99, j_X4_carryOut_122, j_X4_carryOut_135, j_X4_carryOut_148, j_X4_carryOut_161, j_X4_carryOut_178, ev_iload_n1, ev_tableswitch, ev_sw1, ev_swc, ev_aload_n2, ev_aload_n0, ev_getfR, ev_iconst, ev_iaload, ev_callV4, ev_pop_int, ev_pop_ref, ev_goto, ev_aaload, ev_putfI, ev_iastore, ev_vret, ↓e_X0_addHeir, capO_z, kb_6, kb_11, kb_13, kb_15, kb_17, kb_18, kb_19, kb_23, kb_24, kb_25, kb_26, kb_29, kb_31, kb_35, kb_37, kb_41, kb_43, kb_44, kb_61, kb_75, kb_104, kb_7, kb_8, kb_9, kb_10, kb_12, kb_16, kb_20, kb_21, kb_30, kb_32, kb_40, kb_48, kb_50, kb_57, kb_59, kb_60, kb_63, kb_70, kb_78, kb_81, kb_82, kb_84, kb_97, kb_99, kb_100, kb_101, kb_119, kb_120, kb_122, ki_m1, ki_0, ki_1, ki_2, ki_3, ki_4, ki_5, ki_6, ki_7, ki_8, ki_9, ki_10, ki_11, ki_12, ki_13, ki_14, ki_15, ki_16, ki_17, ki_18, ki_19, ki_20, ki_21, ki_22, ki_23, ki_24, ki_25, ki_26, ki_27, ki_28, ki_29, ki_30, ki_31, ki_32, ki_33, ki_34, ki_35, ki_36, ki_37, ki_38, ki_39, ki_40, ki_41, ki_42, ki_43, ki_44, ki_45, ki_46, ki_47, ki_48, ki_49, ki_50, ki_51, ki_52, ki_53, ki_54, ki_55, ki_56, ki_57, ki_58, ki_59, ki_60, ki_61, ki_62, ki_63, ks_m2000, ks_m1006, ks_m1005, ks_m1004, ks_m1003, ks_m1002, ks_m1000, ks_200, ks_201, ks_300, ks_720, ks_9000, ks_10000, ks_250, ks_255, ks_256, ks_320, ks_660, ks_999, ks_1000, ks_9999, ks_12345, ne_2, ne_10, t_0, t_40, t_41, t_42, t_43, t_44, t_45, t_46, t_47, r_0_0, r_0_1, r_0_2, r_0_4, r_0_5, r_0_6, r_0_7, r_40_0, r_40_5, r_44_0, r_44_1, t_1, t_14, t_27, t_2, t_15, t_28, t_64, Nat.reduceEqDiff, ne_eq, not_false_eq_true, false_implies, true_implies, implies_true, Nat.reduceAdd, Nat.reduceLeDiff, Nat.reduceLT, Nat.reduceMul, or_true, true_or, if_true, if_false, not_true_eq_false, and_self, bF, Nat.reduceBEq, Bool.false_and, Bool.and_false, Bool.or_self, Bool.or_false, Bool.false_or, Bool.false_eq_true, Int.reduceAdd, Bool.and_self, Bool.true_and, Bool.and_true, beq_self_eq_true, not_not_, i10_, i01_, List.length_nil, List.length_cons, true_and, and_true, false_and, and_false, kl_i, kl_a, kl_n, kl_l, tl_s, tl_n, rv_S, pd_0, pd_e, pd_r, pd_i, pd_l, nk_6_0, nk_6_1, nk_6_2, nk_6_3, nk_6_4, nk_6_5, vq4_0, vq4_1, vq4_2, vq4_3, cq_0, cq_1, cq_2, cq_3, ei, rE5 isE14, tE1 isE14, vp8 hi, nI_clamp (show i < 2 ^ 31 by omega)]
    exact hK _ ((est_pJ (h := h) (b := 14) hi).trans (show _ = sJ (est h 14) (ix (gI h 42 0)) (gI h 42 1) by rw [ei, ix_m (j := i) (by omega)])) (frE_p (frE_rf 14 h) (by omega))
def readN (B : Nat → Int32) (n : Nat) (E : ES) (w : Int32) (r i : Nat) (T : Nat × Nat × Int32) (N : Nat → Int32) : Bool × (Nat × Nat × Int32) × (Nat → Int32) := match r with
  | 0 => (true, T, N)
  | r + 1 => if numB B (nextB B n T.2.1) (mostN E w (nI i)) then readN B n E w r (i + 1) (nextB B n T.2.1) (on1 N i (valB B (nextB B n T.2.1).1 ((nextB B n T.2.1).2.1 - (nextB B n T.2.1).1))) else (false, nextB B n T.2.1, N)
theorem readN_s (B : Nat → Int32) (n : Nat) (E : ES) (w : Int32) (r i : Nat) (T : Nat × Nat × Int32) (N : Nat → Int32) : readN B n E w (r + 1) i T N = if numB B (nextB B n T.2.1) (mostN E w (nI i)) then readN B n E w r (i + 1) (nextB B n T.2.1) (on1 N i (valB B (nextB B n T.2.1).1 ((nextB B n T.2.1).2.1 - (nextB B n T.2.1).1))) else (false, nextB B n T.2.1, N) := rfl
/-- a statement, its word being the token T: whether it is one, where the reader stands, the estate then -/
def stmtB (B : Nat → Int32) (n : Nat) (E : ES) (T : Nat × Nat × Int32) : Bool × (Nat × Nat × Int32) × ES :=
  if wordB B T = -1 ∨ ((wordB B T = 0 ∨ wordB B T = 1) ∧ ¬ cnt E < 10) then (false, T, E)
  else ((readN B n E (wordB B T) (wantN (wordB B T)) 0 T (fun _ => 0)).1, (readN B n E (wordB B T) (wantN (wordB B T)) 0 T (fun _ => 0)).2.1, if (readN B n E (wordB B T) (wantN (wordB B T)) 0 T (fun _ => 0)).1 = true then doE E (wordB B T) (readN B n E (wordB B T) (wantN (wordB B T)) 0 T (fun _ => 0)).2.2 else E)
def intoB (B : Nat → Int32) (n r k : Nat) (T : Nat × Nat × Int32) (E : ES) : Int32 × (Nat × Nat × Int32) × ES := match r with
  | 0 => (-1, T, E)
  | r + 1 => if ¬ (stmtB B n E T).1 = true then (-1, (stmtB B n E T).2.1, (stmtB B n E T).2.2)
    else if (nextB B n (stmtB B n E T).2.1.2.1).2.2 = 4 then (nI k, nextB B n (stmtB B n E T).2.1.2.1, (stmtB B n E T).2.2)
    else if (nextB B n (stmtB B n E T).2.1.2.1).2.2 = 2 then intoB B n r (k + 1) (nextB B n (nextB B n (stmtB B n E T).2.1.2.1).2.1) (stmtB B n E T).2.2
    else (-1, nextB B n (stmtB B n E T).2.1.2.1, (stmtB B n E T).2.2)
theorem intoB_s (B : Nat → Int32) (n r k : Nat) (T : Nat × Nat × Int32) (E : ES) : intoB B n (r + 1) k T E = if ¬ (stmtB B n E T).1 = true then (-1, (stmtB B n E T).2.1, (stmtB B n E T).2.2)
    else if (nextB B n (stmtB B n E T).2.1.2.1).2.2 = 4 then (nI k, nextB B n (stmtB B n E T).2.1.2.1, (stmtB B n E T).2.2)
    else if (nextB B n (stmtB B n E T).2.1.2.1).2.2 = 2 then intoB B n r (k + 1) (nextB B n (nextB B n (stmtB B n E T).2.1.2.1).2.1) (stmtB B n E T).2.2
    else (-1, nextB B n (stmtB B n E T).2.1.2.1, (stmtB B n E T).2.2) := rfl
