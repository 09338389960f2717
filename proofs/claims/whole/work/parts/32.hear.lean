/-! hearing the twos -/
def twoAt (E : Nat → Int64) (i : Nat) : Prop := (0 ≤ E (2 * i) ∧ E (2 * i) < 8) ∧ 0 ≤ E (2 * i + 1) ∧ E (2 * i + 1) ≤ 1
def allTwo (E : Nat → Int64) (m : Nat) : Prop := ∀ i, i < m → twoAt E i
def thereN (E : Nat → Int64) (m t : Nat) : Int32 := forN m (fun i a => if E (2 * i) = Int64.ofNat t ∧ E (2 * i + 1) = 1 then a + 1 else a) 0
def notN (E : Nat → Int64) (m t : Nat) : Int32 := forN m (fun i a => if E (2 * i) = Int64.ofNat t ∧ ¬ E (2 * i + 1) = 1 then a + 1 else a) 0
def frO (h h' : AH) : Prop := (∀ c k, c ≠ 45 → c ≠ 46 → gI h' c k = gI h c k) ∧ ∀ c k, gJ h' c k = gJ h c k
theorem frO_rf (h : AH) : frO h h := ⟨fun _ _ _ _ => rfl, fun _ _ => rfl⟩
theorem frO_5 {h h' : AH} (hf : frO h h') (k : Nat) (v : Int32) : frO h (pI h' 45 k v) := ⟨fun c k' h1 h2 => by rw [gI_pI, if_neg (fun z => h1 z.1)]; exact hf.1 c k' h1 h2, hf.2⟩
theorem frO_6 {h h' : AH} (hf : frO h h') (k : Nat) (v : Int32) : frO h (pI h' 46 k v) := ⟨fun c k' h1 h2 => by rw [gI_pI, if_neg (fun z => h2 z.1)]; exact hf.1 c k' h1 h2, hf.2⟩
theorem nI_2 (i : Nat) : 2 * nI i = nI (2 * i) := (Int32.ofNat_mul 2 i).symm
theorem th_of {x : Int64} (h0 : 0 ≤ x) (h8 : x < 8) : ∃ t, t < 8 ∧ x = Int64.ofNat t ∧ x.toInt32 = nI t := by
  have h1 := Int64.le_iff_toInt_le.mp h0
  have h2 := Int64.lt_iff_toInt_lt.mp h8
  have e0 : (0 : Int64).toInt = 0 := by decide
  have e8 : (8 : Int64).toInt = 8 := by decide
  rw [e0] at h1
  rw [e8] at h2
  refine ⟨x.toInt.toNat, by omega, ?_, ?_⟩
  · rw [← Int64.toInt_inj, Int64.toInt_ofNat_of_lt (by omega)]
    omega
  · rcases (show x.toInt = 0 ∨ x.toInt = 1 ∨ x.toInt = 2 ∨ x.toInt = 3 ∨ x.toInt = 4 ∨ x.toInt = 5 ∨ x.toInt = 6 ∨ x.toInt = 7 by omega) with q | q | q | q | q | q | q | q <;>
      (rw [show x = _ from (Int64.ofInt_toInt x).symm, q]; decide)
theorem n8_inj {t t' : Nat} (h : t < 8) (h' : t' < 8) (e : Int64.ofNat t = Int64.ofNat t') : t = t' := by
  have := congrArg Int64.toInt e
  rw [Int64.toInt_ofNat_of_lt (by omega), Int64.toInt_ofNat_of_lt (by omega)] at this
  omega
def P_X2_hear : Sp0T := fun as h K => match as with
  | [.ref o, .ref c, .int n] => o = 44 ∧ (∃ s : Nat, s < 8 ∧ c = 49 + 2 * s) ∧ ∃ m : Nat, m ≤ 20 ∧ n = nI m ∧ (∀ h', frO h h' → ¬ allTwo (gJ h c) m → K (some (.int 0)) h') ∧ ∀ h', frO h h' → allTwo (gJ h c) m → (∀ t, t < 8 → gI h' 45 t = thereN (gJ h c) m t ∧ gI h' 46 t = notN (gJ h c) m t) → K (some (.int 1)) h'
  | _ => False
def S_X2_hear : SpT := lift P_X2_hear
def L_X2_hear_123 : List Item := (123, .iconst 1, [], nS) :: (124, .ireturn, [], nS) :: []
def L_X2_hear_117 : List Item := (117, .iinc 3 1, [], nS) :: (120, .goto (-90), [30], nS) :: L_X2_hear_123
def L_X2_hear_105 : List Item := (105, .aload_n 0, [], nS) :: (106, .getfield 15, [2, 1, 1], nS) :: (109, .lload 4, [], nS) :: (111, .l2i, [], nS) :: (112, .dup2, [], nS) :: (113, .iaload, [], nS) :: (114, .iconst 1, [], nS) :: (115, .iadd, [], nS) :: (116, .iastore, [], nS) :: L_X2_hear_117
def L_X2_hear_83 : List Item := (83, .lload 6, [], nS) :: (85, .lconst 1, [], nS) :: (86, .lcmp, [], nS) :: (87, .ifCond .ne 18, [105], nS) :: (90, .aload_n 0, [], nS) :: (91, .getfield 9, [2, 0, 1], nS) :: (94, .lload 4, [], nS) :: (96, .l2i, [], nS) :: (97, .dup2, [], nS) :: (98, .iaload, [], nS) :: (99, .iconst 1, [], nS) :: (100, .iadd, [], nS) :: (101, .iastore, [], nS) :: (102, .goto 15, [117], nS) :: L_X2_hear_105
def L_X2_hear_81 : List Item := (81, .iconst 0, [], nS) :: (82, .ireturn, [], nS) :: (83, .nop, [], nS) :: L_X2_hear_83
def L_X2_hear_67 : List Item := (67, .lload 6, [], nS) :: (69, .lconst 0, [], nS) :: (70, .lcmp, [], nS) :: (71, .ifCond .lt 10, [81], nS) :: (74, .lload 6, [], nS) :: (76, .lconst 1, [], nS) :: (77, .lcmp, [], nS) :: (78, .ifCond .le 5, [83], nS) :: (81, .nop, [], nS) :: L_X2_hear_81
def L_X2_hear_51 : List Item := (51, .lload 4, [], nS) :: (53, .lconst 0, [], nS) :: (54, .lcmp, [], nS) :: (55, .ifCond .lt 26, [81], nS) :: (58, .lload 4, [], nS) :: (60, .ldc2_w 18, [0], nS) :: (63, .lcmp, [], nS) :: (64, .ifCond .ge 17, [81], nS) :: (67, .nop, [], nS) :: L_X2_hear_67
def L_X2_hear_30 : List Item := (30, .iload_n 3, [], nS) :: (31, .iload_n 2, [], nS) :: (32, .if_icmp .ge 91, [123], nS) :: (35, .aload_n 1, [], nS) :: (36, .iconst 2, [], nS) :: (37, .iload_n 3, [], nS) :: (38, .imul, [], nS) :: (39, .laload, [], nS) :: (40, .lstore 4, [], nS) :: (42, .aload_n 1, [], nS) :: (43, .iconst 2, [], nS) :: (44, .iload_n 3, [], nS) :: (45, .imul, [], nS) :: (46, .iconst 1, [], nS) :: (47, .iadd, [], nS) :: (48, .laload, [], nS) :: (49, .lstore 6, [], nS) :: (51, .nop, [], nS) :: L_X2_hear_51
def L_X2_hear_28 : List Item := (28, .iconst 0, [], nS) :: (29, .istore_n 3, [], nS) :: (30, .nop, [], nS) :: L_X2_hear_30
def L_X2_hear_2 : List Item := (2, .iload_n 3, [], nS) :: (3, .bipush 8, [], nS) :: (5, .if_icmp .ge 23, [28], nS) :: (8, .aload_n 0, [], nS) :: (9, .getfield 9, [2, 0, 1], nS) :: (12, .iload_n 3, [], nS) :: (13, .iconst 0, [], nS) :: (14, .iastore, [], nS) :: (15, .aload_n 0, [], nS) :: (16, .getfield 15, [2, 1, 1], nS) :: (19, .iload_n 3, [], nS) :: (20, .iconst 0, [], nS) :: (21, .iastore, [], nS) :: (22, .iinc 3 1, [], nS) :: (25, .goto (-23), [2], nS) :: L_X2_hear_28
def L_X2_hear_0 : List Item := (0, .iconst 0, [], nS) :: (1, .istore_n 3, [], nS) :: (2, .nop, [], nS) :: L_X2_hear_2
def L_X2_hear : List Item := L_X2_hear_0
theorem ok_X2_hear : okB cX2_hear L_X2_hear = true := by decide +kernel
theorem lk_X2_hear (l : Launch) : LKs l RX2 1 false L_X2_hear := ⟨trivial, trivial, trivial, trivial, trivial, trivial, trivial, ⟨_, _, _, rfl, ⟨(RX2, TX2, 2), rfl, by decide, gT_of (List.mem_of_getElem? (i := 208) (by decide +kernel)) rfl⟩, rfl⟩, trivial, trivial, trivial, trivial, ⟨_, _, _, rfl, ⟨(RX2, TX2, 2), rfl, by decide, gT_of (List.mem_of_getElem? (i := 209) (by decide +kernel)) rfl⟩, rfl⟩, trivial, trivial, trivial, trivial, trivial, trivial, trivial, trivial, trivial, trivial, trivial, trivial, trivial, trivial, trivial, trivial, trivial, trivial, trivial, trivial, trivial, trivial, trivial, trivial, trivial, trivial, trivial, trivial, trivial, trivial, trivial, ⟨_, rfl, gT_of (List.mem_of_getElem? (i := 781) (by decide +kernel)) rfl⟩, trivial, trivial, trivial, trivial, trivial, trivial, trivial, trivial, trivial, trivial, trivial, trivial, trivial, trivial, trivial, trivial, trivial, trivial, trivial, trivial, ⟨_, _, _, rfl, ⟨(RX2, TX2, 2), rfl, by decide, gT_of (List.mem_of_getElem? (i := 208) (by decide +kernel)) rfl⟩, rfl⟩, trivial, trivial, trivial, trivial, trivial, trivial, trivial, trivial, trivial, ⟨_, _, _, rfl, ⟨(RX2, TX2, 2), rfl, by decide, gT_of (List.mem_of_getElem? (i := 209) (by decide +kernel)) rfl⟩, rfl⟩, trivial, trivial, trivial, trivial, trivial, trivial, trivial, trivial, trivial, trivial, trivial, trivial⟩
theorem b_X2_hear_0 : atL L_X2_hear 0 = L_X2_hear_0 := rfl
theorem b_X2_hear_2 : atL L_X2_hear 2 = L_X2_hear_2 := rfl
theorem b_X2_hear_28 : atL L_X2_hear 28 = L_X2_hear_28 := rfl
theorem b_X2_hear_30 : atL L_X2_hear 30 = L_X2_hear_30 := rfl
theorem b_X2_hear_51 : atL L_X2_hear 51 = L_X2_hear_51 := rfl
theorem b_X2_hear_67 : atL L_X2_hear 67 = L_X2_hear_67 := rfl
theorem b_X2_hear_81 : atL L_X2_hear 81 = L_X2_hear_81 := rfl
theorem b_X2_hear_83 : atL L_X2_hear 83 = L_X2_hear_83 := rfl
theorem b_X2_hear_105 : atL L_X2_hear 105 = L_X2_hear_105 := rfl
theorem b_X2_hear_117 : atL L_X2_hear 117 = L_X2_hear_117 := rfl
theorem b_X2_hear_123 : atL L_X2_hear 123 = L_X2_hear_123 := rfl
theorem a_X2_hear_28 : afw L_X2_hear [2, 30, 51, 67, 81, 83] 28 = L_X2_hear_28 := rfl
theorem a_X2_hear_105 : afw L_X2_hear [2, 30, 51, 67, 81, 83] 105 = L_X2_hear_105 := rfl
theorem a_X2_hear_117 : afw L_X2_hear [2, 30, 51, 67, 81, 83] 117 = L_X2_hear_117 := rfl
theorem a_X2_hear_123 : afw L_X2_hear [2, 30, 51, 67, 81, 83] 123 = L_X2_hear_123 := rfl
theorem a_X2_hear_2 : afw L_X2_hear [2, 30, 51, 67, 81, 83] 2 = [] := rfl
theorem a_X2_hear_30 : afw L_X2_hear [2, 30, 51, 67, 81, 83] 30 = [] := rfl
theorem a_X2_hear_51 : afw L_X2_hear [2, 30, 51, 67, 81, 83] 51 = [] := rfl
theorem a_X2_hear_67 : afw L_X2_hear [2, 30, 51, 67, 81, 83] 67 = [] := rfl
theorem a_X2_hear_81 : afw L_X2_hear [2, 30, 51, 67, 81, 83] 81 = [] := rfl
theorem a_X2_hear_83 : afw L_X2_hear [2, 30, 51, 67, 81, 83] 83 = [] := rfl
theorem yv_X2_hear : YV yX2_hear cX2_hear 8 (some .boolean) 2 2 := ⟨⟨gT_of (List.mem_of_getElem? (i := 780) (by decide +kernel)) rfl, gT_of (List.mem_of_getElem? (i := 72) (by decide +kernel)) rfl, ⟨by decide, by decide⟩, by decide +kernel, by decide⟩, gT_of (List.mem_of_getElem? (i := 778) (by decide +kernel)) rfl, gT_of (List.mem_of_getElem? (i := 779) (by decide +kernel)) rfl, rfl⟩
set_option maxRecDepth 100000 in
set_option maxHeartbeats 4000000 in
theorem c_X2_hear (l : Launch) : Ct l yX2_hear cX2_hear 8 (some .boolean) 1 0 0 S_X2_hear := by
  refine Ct0_mk L_X2_hear [2, 30, 51, 67, 81, 83] (by decide +kernel) (by decide) ok_X2_hear (lk_X2_hear l) ?_
  intro as h K hP
  match as, hP with
  | [.ref o, .ref c, .int n], ⟨ho, ⟨s, hs, hc⟩, m, hm, hn, hK0, hK1⟩ =>
  refine ⟨by simp [slotsN, Value.category], fun J hJ => ?_⟩
  subst ho hc hn
  rw [show pad 8 [Value.ref 44, Value.ref (49 + 2 * s), Value.int (nI m)] = [Value.ref 44, Value.ref (49 + 2 * s), Value.int (nI m), .null, .null, .null, .null, .null] by simp only [pd_r, pd_i, pd_e, pd_0]]
  generalize Value.ref (49 + 2 * s) = u
  refine hJ 0 _ _ _ _ ?_
  simp only [b_X2_hear_0, goF_s, jmp_n, jmp_c, L_X2_hear_0, L_X2_hear_2, L_X2_hear_28, L_X2_hear_30, L_X2_hear_51, L_X2_hear_67, L_X2_hear_81, L_X2_hear_83, L_X2_hear_105, L_X2_hear_117, L_X2_hear_123, a_X2_hear_2, a_X2_hear_28, a_X2_hear_30, a_X2_hear_51, a_X2_hear_67, a_X2_hear_81, a_X2_hear_83, a_X2_hear_105, a_X2_hear_117, a_X2_hear_123, g_nop, g_iconst, g_bipush, g_lconst, g_iload_n, g_lload, g_aload_n, g_istore_n, g_lstore, g_iinc, g_iadd, g_imul, g_lcmp, g_l2i, g_dup2, g_if_eq, g_if_ne, g_if_lt, g_if_ge, g_if_gt, g_if_le, g_ic_eq, g_ic_ne, g_ic_lt, g_ic_ge, g_ic_gt, g_ic_le, g_goto, g_getfield, g_iaload, g_laload, g_iastore, g_ldc2_w, g_ireturn, pI1, pL1, pII, pLL, pLI, pR1, pIR, pIIR, pLIR, pRIR, pRR, pCP, pV1, pV2, vI, vL, vR, popN, eSt, br1, gtF, ptF, ldK, cV, cI, cS, swJ, capO, capO_z, if00, if10, rv_s, kb_6, kb_7, kb_8, kb_9, kb_10, kb_12, kb_16, kb_20, kb_21, kb_30, kb_32, kb_40, kb_48, kb_50, kb_57, kb_59, kb_60, kb_63, kb_70, kb_78, kb_81, kb_82, kb_84, kb_97, kb_99, kb_100, kb_101, kb_119, kb_120, kb_122, ki_m1, ki_0, ki_1, ki_2, ki_3, ki_4, ki_5, ki_6, ki_7, ki_8, ki_9, ki_10, ki_11, ki_12, ki_13, ki_14, ki_15, ki_16, ki_17, ki_18, ki_19, ki_20, ki_21, ki_22, ki_23, ki_24, ki_25, ki_26, ki_27, ki_28, ki_29, ki_30, ki_31, ki_32, ki_33, ki_34, ki_35, ki_36, ki_37, ki_38, ki_39, ki_40, ki_41, ki_42, ki_43, ki_44, ki_45, ki_46, ki_47, ki_48, ki_49, ki_50, ki_51, ki_52, ki_53, ki_54, ki_55, ki_56, ki_57, ki_58, ki_59, ki_60, ki_61, ki_62, ki_63, ks_m2000, ks_m1006, ks_m1005, ks_m1004, ks_m1003, ks_m1002, ks_m1000, ks_200, ks_250, ks_255, ks_256, ks_320, ks_660, ks_999, ks_1000, ks_9999, ks_12345, ne_2, ne_10, kc_0, kc_1, kf_0, kf_1, kf_2, kf_3, t_0, t_40, t_41, t_42, t_43, t_44, t_45, t_46, t_47, t_64, t_65, t_66, t_67, t_68, t_69, t_70, t_71, t_72, t_73, t_74, t_75, t_76, t_77, t_78, t_79, t_80, t_81, t_82, r_0_0, r_0_1, r_0_2, r_0_4, r_0_5, r_0_6, r_0_7, r_40_0, r_40_5, r_44_0, r_44_1, r_64_0, r_64_1, r_64_3, r_64_4, r_64_5, r_64_6, r_64_7, r_64_8, r_64_9, r_64_12, r_64_17, r_64_18, r_64_19, r_64_20, r_64_22, r_64_23, r_64_24, r_64_25, t_1, t_14, t_27, t_2, t_15, t_28, Nat.reduceEqDiff, ne_eq, not_false_eq_true, false_implies, true_implies, implies_true, Nat.reduceAdd, Nat.reduceLeDiff, Nat.reduceLT, Nat.reduceMul, or_true, true_or, if_true, if_false, not_true_eq_false, and_self, bF, Nat.reduceBEq, Bool.false_and, Bool.and_false, Bool.or_self, Bool.or_false, Bool.false_or, Bool.false_eq_true, Int.reduceAdd, Bool.and_self, Bool.true_and, Bool.and_true, beq_self_eq_true, List.drop, gL, sL, sL2, kilL, pd_0, pd_e, pd_r, pd_i, pd_l, slotsN, Value.category, List.length, List.head?, Option.map_some, Option.toList, List.nil_append, List.cons_append, lift, lift_e, retOK, and_true, true_and, RtM_z, List.length_cons, List.length_nil]
  sorry
