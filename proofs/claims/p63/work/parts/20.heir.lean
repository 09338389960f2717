variable {nn : Nat}
/-! ===== Heir ===== -/
def b2i (p : Prop) [Decidable p] : Int32 := if p then 1 else 0
theorem b2i_0 {p : Prop} [Decidable p] : (b2i p = 0) = ¬ p := by unfold b2i; by_cases h : p <;> simp [h]
theorem b2i_01 {p : Prop} [Decidable p] : (b2i p = 0 ∨ b2i p = 1) = True := by unfold b2i; by_cases h : p <;> simp [h]
theorem b2i_t {p : Prop} [Decidable p] (h : p) : b2i p = 1 := if_pos h
theorem b2i_f {p : Prop} [Decidable p] (h : ¬ p) : b2i p = 0 := if_neg h
def P_X1_age : Sp0T := fun as h K => match as with
  | [.ref c, .int y] => (tC (SHn 0) c).1 = 1 ∧ K (some (.int (y - gI h c 3))) h
  | _ => False
def S_X1_age : SpT := lift P_X1_age
def L_X1_age_0 : List Item := (0, .iload_n 1, [], nS) :: (1, .aload_n 0, [], nS) :: (2, .getfield 21, [1, 3, 0], nS) :: (5, .isub, [], nS) :: (6, .ireturn, [], nS) :: []
def L_X1_age : List Item := L_X1_age_0
theorem ok_X1_age : okB cX1_age L_X1_age = true := by decide +kernel
theorem lk_X1_age (l : Launch) : LKs l RX1 1 false L_X1_age := ⟨trivial, trivial, ⟨_, _, _, rfl, ⟨(RX1, TX1, 7), rfl, by decide, gT_of (List.mem_of_getElem? (i := 67) (by decide +kernel)) rfl⟩, rfl⟩, trivial, trivial, trivial⟩
theorem b_X1_age_0 : atL L_X1_age 0 = L_X1_age_0 := rfl
theorem yv_X1_age : YV yX1_age cX1_age 2 (some .int) 1 1 := ⟨⟨gT_of (List.mem_of_getElem? (i := 442) (by decide +kernel)) rfl, gT_of (List.mem_of_getElem? (i := 28) (by decide +kernel)) rfl, ⟨by decide, by decide⟩, by decide +kernel, by decide⟩, gT_of (List.mem_of_getElem? (i := 440) (by decide +kernel)) rfl, gT_of (List.mem_of_getElem? (i := 441) (by decide +kernel)) rfl, rfl⟩
set_option maxRecDepth 100000 in
set_option maxHeartbeats 4000000 in
theorem c_X1_age (l : Launch) : Ct l yX1_age cX1_age 2 (some .int) 1 0 0 S_X1_age := by
  refine Ct0_mk L_X1_age [] (by decide +kernel) (by decide) ok_X1_age (lk_X1_age l) ?_
  intro nn as h K hP
  match as, hP with
  | [.ref c, .int y], ⟨h1, hK⟩ =>
  refine ⟨by simp [slotsN, Value.category], fun J hJ => ?_⟩
  have h1n := tn (nn := nn) (by decide) h1
  refine hJ 0 _ _ _ _ ?_
  simp only [b_X1_age_0, goF_s, jmp_n, jmp_c, L_X1_age_0, g_nop, g_iload_n, g_aload_n, g_isub, g_getfield, g_ireturn, pI1, pL1, pII, pLL, pLI, pR1, pIR, pIIR, pLIR, pRIR, pRR, pCP, pV1, pV2, pV3, vI, vL, vR, popN, eSt, br1, gtF, ptF, ldK, cV, cI, cS, swJ, capO, capO_z, if00, if10, rv_s, kb_6, kb_11, kb_13, kb_15, kb_17, kb_18, kb_19, kb_23, kb_24, kb_25, kb_26, kb_29, kb_31, kb_35, kb_37, kb_41, kb_43, kb_44, kb_61, kb_75, kb_104, kb_7, kb_8, kb_9, kb_10, kb_12, kb_16, kb_20, kb_21, kb_30, kb_32, kb_40, kb_48, kb_50, kb_57, kb_59, kb_60, kb_63, kb_70, kb_78, kb_81, kb_82, kb_84, kb_97, kb_99, kb_100, kb_101, kb_119, kb_120, kb_122, ki_m1, ki_0, ki_1, ki_2, ki_3, ki_4, ki_5, ki_6, ki_7, ki_8, ki_9, ki_10, ki_11, ki_12, ki_13, ki_14, ki_15, ki_16, ki_17, ki_18, ki_19, ki_20, ki_21, ki_22, ki_23, ki_24, ki_25, ki_26, ki_27, ki_28, ki_29, ki_30, ki_31, ki_32, ki_33, ki_34, ki_35, ki_36, ki_37, ki_38, ki_39, ki_40, ki_41, ki_42, ki_43, ki_44, ki_45, ki_46, ki_47, ki_48, ki_49, ki_50, ki_51, ki_52, ki_53, ki_54, ki_55, ki_56, ki_57, ki_58, ki_59, ki_60, ki_61, ki_62, ki_63, ks_m2000, ks_m1006, ks_m1005, ks_m1004, ks_m1003, ks_m1002, ks_m1000, ks_200, ks_201, ks_300, ks_720, ks_9000, ks_10000, ks_250, ks_255, ks_256, ks_320, ks_660, ks_999, ks_1000, ks_9999, ks_12345, ne_2, ne_10, kc_0, kc_1, kf_0, kf_1, kf_2, kf_3, t_0, t_40, t_41, t_42, t_43, t_44, t_45, t_46, t_47, r_0_0, r_0_1, r_0_2, r_0_4, r_0_5, r_0_6, r_0_7, r_40_0, r_40_5, r_44_0, r_44_1, t_1, t_14, t_27, t_2, t_15, t_28, t_64, Nat.reduceEqDiff, ne_eq, not_false_eq_true, false_implies, true_implies, implies_true, Nat.reduceAdd, Nat.reduceLeDiff, Nat.reduceLT, Nat.reduceMul, or_true, true_or, if_true, if_false, not_true_eq_false, and_self, bF, Nat.reduceBEq, Bool.false_and, Bool.and_false, Bool.or_self, Bool.or_false, Bool.false_or, Bool.false_eq_true, Int.reduceAdd, Bool.and_self, Bool.true_and, Bool.and_true, beq_self_eq_true, List.drop, gL, sL, sL2, kilL, pad, slotsN, Value.category, List.length, List.head?, Option.map_some, Option.toList, List.nil_append, List.cons_append, lift_e, retOK, and_true, true_and, RtM_z, List.length_cons, List.length_nil]
  exact ⟨h1n, hK⟩
def P_X1_tenthUpward : Sp0T := fun as h K => match as with
  | [.int x] => K (some (.int (tenU x))) h
  | _ => False
def S_X1_tenthUpward : SpT := lift P_X1_tenthUpward
def L_X1_tenthUpward_0 : List Item := (0, .iload_n 0, [], nS) :: (1, .bipush 9, [], nS) :: (3, .iadd, [], nS) :: (4, .bipush 10, [], nS) :: (6, .idiv, [], nS) :: (7, .ireturn, [], nS) :: []
def L_X1_tenthUpward : List Item := L_X1_tenthUpward_0
theorem ok_X1_tenthUpward : okB cX1_tenthUpward L_X1_tenthUpward = true := by decide +kernel
theorem lk_X1_tenthUpward (l : Launch) : LKs l RX1 1 false L_X1_tenthUpward := ⟨trivial, trivial, trivial, trivial, trivial, trivial, trivial⟩
theorem b_X1_tenthUpward_0 : atL L_X1_tenthUpward 0 = L_X1_tenthUpward_0 := rfl
theorem yv_X1_tenthUpward : YS yX1_tenthUpward cX1_tenthUpward 1 (some .int) 1 := ⟨⟨gT_of (List.mem_of_getElem? (i := 486) (by decide +kernel)) rfl, gT_of (List.mem_of_getElem? (i := 28) (by decide +kernel)) rfl, ⟨by decide, by decide⟩, by decide +kernel, by decide⟩, gT_of (List.mem_of_getElem? (i := 485) (by decide +kernel)) rfl⟩
set_option maxRecDepth 100000 in
set_option maxHeartbeats 4000000 in
theorem c_X1_tenthUpward (l : Launch) : Ct l yX1_tenthUpward cX1_tenthUpward 1 (some .int) 1 0 0 S_X1_tenthUpward := by
  refine Ct0_mk L_X1_tenthUpward [] (by decide +kernel) (by decide) ok_X1_tenthUpward (lk_X1_tenthUpward l) ?_
  intro nn as h K hP
  match as, hP with
  | [.int x], hK =>
  refine ⟨by simp [slotsN, Value.category], fun J hJ => ?_⟩
  refine hJ 0 _ _ _ _ ?_
  simp only [b_X1_tenthUpward_0, goF_s, jmp_n, jmp_c, L_X1_tenthUpward_0, g_nop, g_bipush, g_iload_n, g_iadd, g_idiv, g_ireturn, pI1, pL1, pII, pLL, pLI, pR1, pIR, pIIR, pLIR, pRIR, pRR, pCP, pV1, pV2, pV3, vI, vL, vR, popN, eSt, br1, gtF, ptF, ldK, cV, cI, cS, swJ, capO, capO_z, if00, if10, rv_s, kb_6, kb_11, kb_13, kb_15, kb_17, kb_18, kb_19, kb_23, kb_24, kb_25, kb_26, kb_29, kb_31, kb_35, kb_37, kb_41, kb_43, kb_44, kb_61, kb_75, kb_104, kb_7, kb_8, kb_9, kb_10, kb_12, kb_16, kb_20, kb_21, kb_30, kb_32, kb_40, kb_48, kb_50, kb_57, kb_59, kb_60, kb_63, kb_70, kb_78, kb_81, kb_82, kb_84, kb_97, kb_99, kb_100, kb_101, kb_119, kb_120, kb_122, ki_m1, ki_0, ki_1, ki_2, ki_3, ki_4, ki_5, ki_6, ki_7, ki_8, ki_9, ki_10, ki_11, ki_12, ki_13, ki_14, ki_15, ki_16, ki_17, ki_18, ki_19, ki_20, ki_21, ki_22, ki_23, ki_24, ki_25, ki_26, ki_27, ki_28, ki_29, ki_30, ki_31, ki_32, ki_33, ki_34, ki_35, ki_36, ki_37, ki_38, ki_39, ki_40, ki_41, ki_42, ki_43, ki_44, ki_45, ki_46, ki_47, ki_48, ki_49, ki_50, ki_51, ki_52, ki_53, ki_54, ki_55, ki_56, ki_57, ki_58, ki_59, ki_60, ki_61, ki_62, ki_63, ks_m2000, ks_m1006, ks_m1005, ks_m1004, ks_m1003, ks_m1002, ks_m1000, ks_200, ks_201, ks_300, ks_720, ks_9000, ks_10000, ks_250, ks_255, ks_256, ks_320, ks_660, ks_999, ks_1000, ks_9999, ks_12345, ne_2, ne_10, kc_0, kc_1, kf_0, kf_1, kf_2, kf_3, t_0, t_40, t_41, t_42, t_43, t_44, t_45, t_46, t_47, r_0_0, r_0_1, r_0_2, r_0_4, r_0_5, r_0_6, r_0_7, r_40_0, r_40_5, r_44_0, r_44_1, t_1, t_14, t_27, t_2, t_15, t_28, t_64, Nat.reduceEqDiff, ne_eq, not_false_eq_true, false_implies, true_implies, implies_true, Nat.reduceAdd, Nat.reduceLeDiff, Nat.reduceLT, Nat.reduceMul, or_true, true_or, if_true, if_false, not_true_eq_false, and_self, bF, Nat.reduceBEq, Bool.false_and, Bool.and_false, Bool.or_self, Bool.or_false, Bool.false_or, Bool.false_eq_true, Int.reduceAdd, Bool.and_self, Bool.true_and, Bool.and_true, beq_self_eq_true, List.drop, gL, sL, sL2, kilL, pad, slotsN, Value.category, List.length, List.head?, Option.map_some, Option.toList, List.nil_append, List.cons_append, lift_e, retOK, and_true, true_and, RtM_z, List.length_cons, List.length_nil]
  exact hK
def P_X1_halfUpward : Sp0T := fun as h K => match as with
  | [.int x] => K (some (.int (halfU x))) h
  | _ => False
def S_X1_halfUpward : SpT := lift P_X1_halfUpward
def L_X1_halfUpward_0 : List Item := (0, .iload_n 0, [], nS) :: (1, .iconst 1, [], nS) :: (2, .iadd, [], nS) :: (3, .iconst 2, [], nS) :: (4, .idiv, [], nS) :: (5, .ireturn, [], nS) :: []
def L_X1_halfUpward : List Item := L_X1_halfUpward_0
theorem ok_X1_halfUpward : okB cX1_halfUpward L_X1_halfUpward = true := by decide +kernel
theorem lk_X1_halfUpward (l : Launch) : LKs l RX1 1 false L_X1_halfUpward := ⟨trivial, trivial, trivial, trivial, trivial, trivial, trivial⟩
theorem b_X1_halfUpward_0 : atL L_X1_halfUpward 0 = L_X1_halfUpward_0 := rfl
theorem yv_X1_halfUpward : YS yX1_halfUpward cX1_halfUpward 1 (some .int) 1 := ⟨⟨gT_of (List.mem_of_getElem? (i := 508) (by decide +kernel)) rfl, gT_of (List.mem_of_getElem? (i := 28) (by decide +kernel)) rfl, ⟨by decide, by decide⟩, by decide +kernel, by decide⟩, gT_of (List.mem_of_getElem? (i := 507) (by decide +kernel)) rfl⟩
set_option maxRecDepth 100000 in
set_option maxHeartbeats 4000000 in
theorem c_X1_halfUpward (l : Launch) : Ct l yX1_halfUpward cX1_halfUpward 1 (some .int) 1 0 0 S_X1_halfUpward := by
  refine Ct0_mk L_X1_halfUpward [] (by decide +kernel) (by decide) ok_X1_halfUpward (lk_X1_halfUpward l) ?_
  intro nn as h K hP
  match as, hP with
  | [.int x], hK =>
  refine ⟨by simp [slotsN, Value.category], fun J hJ => ?_⟩
  refine hJ 0 _ _ _ _ ?_
  simp only [b_X1_halfUpward_0, goF_s, jmp_n, jmp_c, L_X1_halfUpward_0, g_nop, g_iconst, g_iload_n, g_iadd, g_idiv, g_ireturn, pI1, pL1, pII, pLL, pLI, pR1, pIR, pIIR, pLIR, pRIR, pRR, pCP, pV1, pV2, pV3, vI, vL, vR, popN, eSt, br1, gtF, ptF, ldK, cV, cI, cS, swJ, capO, capO_z, if00, if10, rv_s, kb_6, kb_11, kb_13, kb_15, kb_17, kb_18, kb_19, kb_23, kb_24, kb_25, kb_26, kb_29, kb_31, kb_35, kb_37, kb_41, kb_43, kb_44, kb_61, kb_75, kb_104, kb_7, kb_8, kb_9, kb_10, kb_12, kb_16, kb_20, kb_21, kb_30, kb_32, kb_40, kb_48, kb_50, kb_57, kb_59, kb_60, kb_63, kb_70, kb_78, kb_81, kb_82, kb_84, kb_97, kb_99, kb_100, kb_101, kb_119, kb_120, kb_122, ki_m1, ki_0, ki_1, ki_2, ki_3, ki_4, ki_5, ki_6, ki_7, ki_8, ki_9, ki_10, ki_11, ki_12, ki_13, ki_14, ki_15, ki_16, ki_17, ki_18, ki_19, ki_20, ki_21, ki_22, ki_23, ki_24, ki_25, ki_26, ki_27, ki_28, ki_29, ki_30, ki_31, ki_32, ki_33, ki_34, ki_35, ki_36, ki_37, ki_38, ki_39, ki_40, ki_41, ki_42, ki_43, ki_44, ki_45, ki_46, ki_47, ki_48, ki_49, ki_50, ki_51, ki_52, ki_53, ki_54, ki_55, ki_56, ki_57, ki_58, ki_59, ki_60, ki_61, ki_62, ki_63, ks_m2000, ks_m1006, ks_m1005, ks_m1004, ks_m1003, ks_m1002, ks_m1000, ks_200, ks_201, ks_300, ks_720, ks_9000, ks_10000, ks_250, ks_255, ks_256, ks_320, ks_660, ks_999, ks_1000, ks_9999, ks_12345, ne_2, ne_10, kc_0, kc_1, kf_0, kf_1, kf_2, kf_3, t_0, t_40, t_41, t_42, t_43, t_44, t_45, t_46, t_47, r_0_0, r_0_1, r_0_2, r_0_4, r_0_5, r_0_6, r_0_7, r_40_0, r_40_5, r_44_0, r_44_1, t_1, t_14, t_27, t_2, t_15, t_28, t_64, Nat.reduceEqDiff, ne_eq, not_false_eq_true, false_implies, true_implies, implies_true, Nat.reduceAdd, Nat.reduceLeDiff, Nat.reduceLT, Nat.reduceMul, or_true, true_or, if_true, if_false, not_true_eq_false, and_self, bF, Nat.reduceBEq, Bool.false_and, Bool.and_false, Bool.or_self, Bool.or_false, Bool.false_or, Bool.false_eq_true, Int.reduceAdd, Bool.and_self, Bool.true_and, Bool.and_true, beq_self_eq_true, List.drop, gL, sL, sL2, kilL, pad, slotsN, Value.category, List.length, List.head?, Option.map_some, Option.toList, List.nil_append, List.cons_append, lift_e, retOK, and_true, true_and, RtM_z, List.length_cons, List.length_nil]
  exact hK

def P_X1_leaveNothing : Sp0T := fun as h K => match as with
  | [.ref c] => (tC (SHn 0) c).1 = 1 ∧ K none (pI (pI h c 6 2) c 4 0)
  | _ => False
def S_X1_leaveNothing : SpT := lift P_X1_leaveNothing
def L_X1_leaveNothing_0 : List Item := (0, .aload_n 0, [], nS) :: (1, .iconst 2, [], nS) :: (2, .putfield 30, [1, 6, 0], nS) :: (5, .aload_n 0, [], nS) :: (6, .iconst 0, [], nS) :: (7, .putfield 24, [1, 4, 0], nS) :: (10, .return_, [], nS) :: []
def L_X1_leaveNothing : List Item := L_X1_leaveNothing_0
theorem ok_X1_leaveNothing : okB cX1_leaveNothing L_X1_leaveNothing = true := by decide +kernel
theorem lk_X1_leaveNothing (l : Launch) : LKs l RX1 1 false L_X1_leaveNothing := ⟨trivial, trivial, ⟨_, _, _, rfl, ⟨(RX1, TX1, 7), rfl, by decide, gT_of (List.mem_of_getElem? (i := 76) (by decide +kernel)) rfl⟩, rfl, fun q => absurd rfl q⟩, trivial, trivial, ⟨_, _, _, rfl, ⟨(RX1, TX1, 7), rfl, by decide, gT_of (List.mem_of_getElem? (i := 69) (by decide +kernel)) rfl⟩, rfl, fun q => absurd rfl q⟩, trivial, trivial⟩
theorem b_X1_leaveNothing_0 : atL L_X1_leaveNothing 0 = L_X1_leaveNothing_0 := rfl
theorem yv_X1_leaveNothing : YV yX1_leaveNothing cX1_leaveNothing 1 none 0 1 := ⟨⟨gT_of (List.mem_of_getElem? (i := 559) (by decide +kernel)) rfl, gT_of (List.mem_of_getElem? (i := 28) (by decide +kernel)) rfl, ⟨by decide, by decide⟩, by decide +kernel, by decide⟩, gT_of (List.mem_of_getElem? (i := 557) (by decide +kernel)) rfl, gT_of (List.mem_of_getElem? (i := 558) (by decide +kernel)) rfl, rfl⟩
set_option maxRecDepth 100000 in
set_option maxHeartbeats 4000000 in
theorem c_X1_leaveNothing (l : Launch) : Ct l yX1_leaveNothing cX1_leaveNothing 1 none 1 0 0 S_X1_leaveNothing := by
  refine Ct0_mk L_X1_leaveNothing [] (by decide +kernel) (by decide) ok_X1_leaveNothing (lk_X1_leaveNothing l) ?_
  intro nn as h K hP
  match as, hP with
  | [.ref c], ⟨h1, hK⟩ =>
  refine ⟨by simp [slotsN, Value.category], fun J hJ => ?_⟩
  have h1n := tn (nn := nn) (by decide) h1
  refine hJ 0 _ _ _ _ ?_
  simp only [b_X1_leaveNothing_0, goF_s, jmp_n, jmp_c, L_X1_leaveNothing_0, g_nop, g_iconst, g_aload_n, g_putfield, g_return_, pI1, pL1, pII, pLL, pLI, pR1, pIR, pIIR, pLIR, pRIR, pRR, pCP, pV1, pV2, pV3, vI, vL, vR, popN, eSt, br1, gtF, ptF, ldK, cV, cI, cS, swJ, capO, capO_z, if00, if10, rv_s, kb_6, kb_11, kb_13, kb_15, kb_17, kb_18, kb_19, kb_23, kb_24, kb_25, kb_26, kb_29, kb_31, kb_35, kb_37, kb_41, kb_43, kb_44, kb_61, kb_75, kb_104, kb_7, kb_8, kb_9, kb_10, kb_12, kb_16, kb_20, kb_21, kb_30, kb_32, kb_40, kb_48, kb_50, kb_57, kb_59, kb_60, kb_63, kb_70, kb_78, kb_81, kb_82, kb_84, kb_97, kb_99, kb_100, kb_101, kb_119, kb_120, kb_122, ki_m1, ki_0, ki_1, ki_2, ki_3, ki_4, ki_5, ki_6, ki_7, ki_8, ki_9, ki_10, ki_11, ki_12, ki_13, ki_14, ki_15, ki_16, ki_17, ki_18, ki_19, ki_20, ki_21, ki_22, ki_23, ki_24, ki_25, ki_26, ki_27, ki_28, ki_29, ki_30, ki_31, ki_32, ki_33, ki_34, ki_35, ki_36, ki_37, ki_38, ki_39, ki_40, ki_41, ki_42, ki_43, ki_44, ki_45, ki_46, ki_47, ki_48, ki_49, ki_50, ki_51, ki_52, ki_53, ki_54, ki_55, ki_56, ki_57, ki_58, ki_59, ki_60, ki_61, ki_62, ki_63, ks_m2000, ks_m1006, ks_m1005, ks_m1004, ks_m1003, ks_m1002, ks_m1000, ks_200, ks_201, ks_300, ks_720, ks_9000, ks_10000, ks_250, ks_255, ks_256, ks_320, ks_660, ks_999, ks_1000, ks_9999, ks_12345, ne_2, ne_10, kc_0, kc_1, kf_0, kf_1, kf_2, kf_3, t_0, t_40, t_41, t_42, t_43, t_44, t_45, t_46, t_47, r_0_0, r_0_1, r_0_2, r_0_4, r_0_5, r_0_6, r_0_7, r_40_0, r_40_5, r_44_0, r_44_1, t_1, t_14, t_27, t_2, t_15, t_28, t_64, Nat.reduceEqDiff, ne_eq, not_false_eq_true, false_implies, true_implies, implies_true, Nat.reduceAdd, Nat.reduceLeDiff, Nat.reduceLT, Nat.reduceMul, or_true, true_or, if_true, if_false, not_true_eq_false, and_self, bF, Nat.reduceBEq, Bool.false_and, Bool.and_false, Bool.or_self, Bool.or_false, Bool.false_or, Bool.false_eq_true, Int.reduceAdd, Bool.and_self, Bool.true_and, Bool.and_true, beq_self_eq_true, List.drop, gL, sL, sL2, kilL, pad, slotsN, Value.category, List.length, List.head?, Option.map_some, Option.toList, List.nil_append, List.cons_append, lift_e, retOK, and_true, true_and, RtM_z, List.length_cons, List.length_nil, h1n, h1]
  exact hK
def P_X1_begin : Sp0T := fun as h K => match as with
  | [.ref c, .int k, .int a, .int y, .int f] => (tC (SHn 0) c).1 = 1 ∧ K none (pI (pI (pI (pI (pI (pI (pI h c 0 k) c 1 a) c 3 y) c 2 f) c 4 0) c 5 0) c 6 0)
  | _ => False
def S_X1_begin : SpT := lift P_X1_begin
def L_X1_begin_0 : List Item := (0, .aload_n 0, [], nS) :: (1, .iload_n 1, [], nS) :: (2, .putfield 15, [1, 0, 0], nS) :: (5, .aload_n 0, [], nS) :: (6, .iload_n 2, [], nS) :: (7, .putfield 18, [1, 1, 0], nS) :: (10, .aload_n 0, [], nS) :: (11, .iload_n 3, [], nS) :: (12, .putfield 21, [1, 3, 0], nS) :: (15, .aload_n 0, [], nS) :: (16, .iload 4, [], nS) :: (18, .putfield 9, [1, 2, 0], nS) :: (21, .aload_n 0, [], nS) :: (22, .iconst 0, [], nS) :: (23, .putfield 24, [1, 4, 0], nS) :: (26, .aload_n 0, [], nS) :: (27, .iconst 0, [], nS) :: (28, .putfield 27, [1, 5, 0], nS) :: (31, .aload_n 0, [], nS) :: (32, .iconst 0, [], nS) :: (33, .putfield 30, [1, 6, 0], nS) :: (36, .return_, [], nS) :: []
def L_X1_begin : List Item := L_X1_begin_0
theorem ok_X1_begin : okB cX1_begin L_X1_begin = true := by decide +kernel
theorem lk_X1_begin (l : Launch) : LKs l RX1 1 false L_X1_begin := ⟨trivial, trivial, ⟨_, _, _, rfl, ⟨(RX1, TX1, 7), rfl, by decide, gT_of (List.mem_of_getElem? (i := 60) (by decide +kernel)) rfl⟩, rfl, fun q => absurd rfl q⟩, trivial, trivial, ⟨_, _, _, rfl, ⟨(RX1, TX1, 7), rfl, by decide, gT_of (List.mem_of_getElem? (i := 62) (by decide +kernel)) rfl⟩, rfl, fun q => absurd rfl q⟩, trivial, trivial, ⟨_, _, _, rfl, ⟨(RX1, TX1, 7), rfl, by decide, gT_of (List.mem_of_getElem? (i := 67) (by decide +kernel)) rfl⟩, rfl, fun q => absurd rfl q⟩, trivial, trivial, ⟨_, _, _, rfl, ⟨(RX1, TX1, 7), rfl, by decide, gT_of (List.mem_of_getElem? (i := 64) (by decide +kernel)) rfl⟩, rfl, fun q => absurd rfl q⟩, trivial, trivial, ⟨_, _, _, rfl, ⟨(RX1, TX1, 7), rfl, by decide, gT_of (List.mem_of_getElem? (i := 69) (by decide +kernel)) rfl⟩, rfl, fun q => absurd rfl q⟩, trivial, trivial, ⟨_, _, _, rfl, ⟨(RX1, TX1, 7), rfl, by decide, gT_of (List.mem_of_getElem? (i := 73) (by decide +kernel)) rfl⟩, rfl, fun q => absurd rfl q⟩, trivial, trivial, ⟨_, _, _, rfl, ⟨(RX1, TX1, 7), rfl, by decide, gT_of (List.mem_of_getElem? (i := 76) (by decide +kernel)) rfl⟩, rfl, fun q => absurd rfl q⟩, trivial, trivial⟩
theorem b_X1_begin_0 : atL L_X1_begin 0 = L_X1_begin_0 := rfl
theorem yv_X1_begin : YV yX1_begin cX1_begin 5 none 4 1 := ⟨⟨gT_of (List.mem_of_getElem? (i := 433) (by decide +kernel)) rfl, gT_of (List.mem_of_getElem? (i := 28) (by decide +kernel)) rfl, ⟨by decide, by decide⟩, by decide +kernel, by decide⟩, gT_of (List.mem_of_getElem? (i := 431) (by decide +kernel)) rfl, gT_of (List.mem_of_getElem? (i := 432) (by decide +kernel)) rfl, rfl⟩
set_option maxRecDepth 100000 in
set_option maxHeartbeats 4000000 in
theorem c_X1_begin (l : Launch) : Ct l yX1_begin cX1_begin 5 none 1 0 0 S_X1_begin := by
  refine Ct0_mk L_X1_begin [] (by decide +kernel) (by decide) ok_X1_begin (lk_X1_begin l) ?_
  intro nn as h K hP
  match as, hP with
  | [.ref c, .int k, .int a, .int y, .int f], ⟨h1, hK⟩ =>
  refine ⟨by simp [slotsN, Value.category], fun J hJ => ?_⟩
  have h1n := tn (nn := nn) (by decide) h1
  refine hJ 0 _ _ _ _ ?_
  simp only [b_X1_begin_0, goF_s, jmp_n, jmp_c, L_X1_begin_0, g_nop, g_iconst, g_iload, g_iload_n, g_aload_n, g_putfield, g_return_, pI1, pL1, pII, pLL, pLI, pR1, pIR, pIIR, pLIR, pRIR, pRR, pCP, pV1, pV2, pV3, vI, vL, vR, popN, eSt, br1, gtF, ptF, ldK, cV, cI, cS, swJ, capO, capO_z, if00, if10, rv_s, kb_6, kb_11, kb_13, kb_15, kb_17, kb_18, kb_19, kb_23, kb_24, kb_25, kb_26, kb_29, kb_31, kb_35, kb_37, kb_41, kb_43, kb_44, kb_61, kb_75, kb_104, kb_7, kb_8, kb_9, kb_10, kb_12, kb_16, kb_20, kb_21, kb_30, kb_32, kb_40, kb_48, kb_50, kb_57, kb_59, kb_60, kb_63, kb_70, kb_78, kb_81, kb_82, kb_84, kb_97, kb_99, kb_100, kb_101, kb_119, kb_120, kb_122, ki_m1, ki_0, ki_1, ki_2, ki_3, ki_4, ki_5, ki_6, ki_7, ki_8, ki_9, ki_10, ki_11, ki_12, ki_13, ki_14, ki_15, ki_16, ki_17, ki_18, ki_19, ki_20, ki_21, ki_22, ki_23, ki_24, ki_25, ki_26, ki_27, ki_28, ki_29, ki_30, ki_31, ki_32, ki_33, ki_34, ki_35, ki_36, ki_37, ki_38, ki_39, ki_40, ki_41, ki_42, ki_43, ki_44, ki_45, ki_46, ki_47, ki_48, ki_49, ki_50, ki_51, ki_52, ki_53, ki_54, ki_55, ki_56, ki_57, ki_58, ki_59, ki_60, ki_61, ki_62, ki_63, ks_m2000, ks_m1006, ks_m1005, ks_m1004, ks_m1003, ks_m1002, ks_m1000, ks_200, ks_201, ks_300, ks_720, ks_9000, ks_10000, ks_250, ks_255, ks_256, ks_320, ks_660, ks_999, ks_1000, ks_9999, ks_12345, ne_2, ne_10, kc_0, kc_1, kf_0, kf_1, kf_2, kf_3, t_0, t_40, t_41, t_42, t_43, t_44, t_45, t_46, t_47, r_0_0, r_0_1, r_0_2, r_0_4, r_0_5, r_0_6, r_0_7, r_40_0, r_40_5, r_44_0, r_44_1, t_1, t_14, t_27, t_2, t_15, t_28, t_64, Nat.reduceEqDiff, ne_eq, not_false_eq_true, false_implies, true_implies, implies_true, Nat.reduceAdd, Nat.reduceLeDiff, Nat.reduceLT, Nat.reduceMul, or_true, true_or, if_true, if_false, not_true_eq_false, and_self, bF, Nat.reduceBEq, Bool.false_and, Bool.and_false, Bool.or_self, Bool.or_false, Bool.false_or, Bool.false_eq_true, Int.reduceAdd, Bool.and_self, Bool.true_and, Bool.and_true, beq_self_eq_true, List.drop, gL, sL, sL2, kilL, pad, slotsN, Value.category, List.length, List.head?, Option.map_some, Option.toList, List.nil_append, List.cons_append, lift_e, retOK, and_true, true_and, RtM_z, List.length_cons, List.length_nil, h1n, h1]
  exact hK
def P_X1_copyFrom : Sp0T := fun as h K => match as with
  | [.ref c, .ref d] => (tC (SHn 0) c).1 = 1 ∧ (tC (SHn 0) d).1 = 1 ∧ c ≠ d ∧ K none (pI (pI (pI (pI (pI (pI (pI h c 0 (gI h d 0)) c 1 (gI h d 1)) c 2 (gI h d 2)) c 3 (gI h d 3)) c 4 (gI h d 4)) c 5 (gI h d 5)) c 6 (gI h d 6))
  | _ => False
def S_X1_copyFrom : SpT := lift P_X1_copyFrom
def L_X1_copyFrom_0 : List Item := (0, .aload_n 0, [], nS) :: (1, .aload_n 1, [], nS) :: (2, .getfield 15, [1, 0, 0], nS) :: (5, .putfield 15, [1, 0, 0], nS) :: (8, .aload_n 0, [], nS) :: (9, .aload_n 1, [], nS) :: (10, .getfield 18, [1, 1, 0], nS) :: (13, .putfield 18, [1, 1, 0], nS) :: (16, .aload_n 0, [], nS) :: (17, .aload_n 1, [], nS) :: (18, .getfield 9, [1, 2, 0], nS) :: (21, .putfield 9, [1, 2, 0], nS) :: (24, .aload_n 0, [], nS) :: (25, .aload_n 1, [], nS) :: (26, .getfield 21, [1, 3, 0], nS) :: (29, .putfield 21, [1, 3, 0], nS) :: (32, .aload_n 0, [], nS) :: (33, .aload_n 1, [], nS) :: (34, .getfield 24, [1, 4, 0], nS) :: (37, .putfield 24, [1, 4, 0], nS) :: (40, .aload_n 0, [], nS) :: (41, .aload_n 1, [], nS) :: (42, .getfield 27, [1, 5, 0], nS) :: (45, .putfield 27, [1, 5, 0], nS) :: (48, .aload_n 0, [], nS) :: (49, .aload_n 1, [], nS) :: (50, .getfield 30, [1, 6, 0], nS) :: (53, .putfield 30, [1, 6, 0], nS) :: (56, .return_, [], nS) :: []
def L_X1_copyFrom : List Item := L_X1_copyFrom_0
theorem ok_X1_copyFrom : okB cX1_copyFrom L_X1_copyFrom = true := by decide +kernel
theorem lk_X1_copyFrom (l : Launch) : LKs l RX1 1 false L_X1_copyFrom := ⟨trivial, trivial, ⟨_, _, _, rfl, ⟨(RX1, TX1, 7), rfl, by decide, gT_of (List.mem_of_getElem? (i := 60) (by decide +kernel)) rfl⟩, rfl⟩, ⟨_, _, _, rfl, ⟨(RX1, TX1, 7), rfl, by decide, gT_of (List.mem_of_getElem? (i := 60) (by decide +kernel)) rfl⟩, rfl, fun q => absurd rfl q⟩, trivial, trivial, ⟨_, _, _, rfl, ⟨(RX1, TX1, 7), rfl, by decide, gT_of (List.mem_of_getElem? (i := 62) (by decide +kernel)) rfl⟩, rfl⟩, ⟨_, _, _, rfl, ⟨(RX1, TX1, 7), rfl, by decide, gT_of (List.mem_of_getElem? (i := 62) (by decide +kernel)) rfl⟩, rfl, fun q => absurd rfl q⟩, trivial, trivial, ⟨_, _, _, rfl, ⟨(RX1, TX1, 7), rfl, by decide, gT_of (List.mem_of_getElem? (i := 64) (by decide +kernel)) rfl⟩, rfl⟩, ⟨_, _, _, rfl, ⟨(RX1, TX1, 7), rfl, by decide, gT_of (List.mem_of_getElem? (i := 64) (by decide +kernel)) rfl⟩, rfl, fun q => absurd rfl q⟩, trivial, trivial, ⟨_, _, _, rfl, ⟨(RX1, TX1, 7), rfl, by decide, gT_of (List.mem_of_getElem? (i := 67) (by decide +kernel)) rfl⟩, rfl⟩, ⟨_, _, _, rfl, ⟨(RX1, TX1, 7), rfl, by decide, gT_of (List.mem_of_getElem? (i := 67) (by decide +kernel)) rfl⟩, rfl, fun q => absurd rfl q⟩, trivial, trivial, ⟨_, _, _, rfl, ⟨(RX1, TX1, 7), rfl, by decide, gT_of (List.mem_of_getElem? (i := 69) (by decide +kernel)) rfl⟩, rfl⟩, ⟨_, _, _, rfl, ⟨(RX1, TX1, 7), rfl, by decide, gT_of (List.mem_of_getElem? (i := 69) (by decide +kernel)) rfl⟩, rfl, fun q => absurd rfl q⟩, trivial, trivial, ⟨_, _, _, rfl, ⟨(RX1, TX1, 7), rfl, by decide, gT_of (List.mem_of_getElem? (i := 73) (by decide +kernel)) rfl⟩, rfl⟩, ⟨_, _, _, rfl, ⟨(RX1, TX1, 7), rfl, by decide, gT_of (List.mem_of_getElem? (i := 73) (by decide +kernel)) rfl⟩, rfl, fun q => absurd rfl q⟩, trivial, trivial, ⟨_, _, _, rfl, ⟨(RX1, TX1, 7), rfl, by decide, gT_of (List.mem_of_getElem? (i := 76) (by decide +kernel)) rfl⟩, rfl⟩, ⟨_, _, _, rfl, ⟨(RX1, TX1, 7), rfl, by decide, gT_of (List.mem_of_getElem? (i := 76) (by decide +kernel)) rfl⟩, rfl, fun q => absurd rfl q⟩, trivial, trivial⟩
theorem b_X1_copyFrom_0 : atL L_X1_copyFrom 0 = L_X1_copyFrom_0 := rfl
theorem yv_X1_copyFrom : YV yX1_copyFrom cX1_copyFrom 2 none 1 1 := ⟨⟨gT_of (List.mem_of_getElem? (i := 315) (by decide +kernel)) rfl, gT_of (List.mem_of_getElem? (i := 28) (by decide +kernel)) rfl, ⟨by decide, by decide⟩, by decide +kernel, by decide⟩, gT_of (List.mem_of_getElem? (i := 313) (by decide +kernel)) rfl, gT_of (List.mem_of_getElem? (i := 314) (by decide +kernel)) rfl, rfl⟩
set_option maxRecDepth 100000 in
set_option maxHeartbeats 4000000 in
theorem c_X1_copyFrom (l : Launch) : Ct l yX1_copyFrom cX1_copyFrom 2 none 1 0 0 S_X1_copyFrom := by
  refine Ct0_mk L_X1_copyFrom [] (by decide +kernel) (by decide) ok_X1_copyFrom (lk_X1_copyFrom l) ?_
  intro nn as h K hP
  match as, hP with
  | [.ref c, .ref d], ⟨h1, h2, h3, hK⟩ =>
  refine ⟨by simp [slotsN, Value.category], fun J hJ => ?_⟩
  have h1n := tn (nn := nn) (by decide) h1
  have h2n := tn (nn := nn) (by decide) h2
  have hn : ∀ (h : AH) (k k' : Nat) (v : Int32), gI (pI h c k v) d k' = gI h d k' := fun h k k' v => by rw [gI_pI, if_neg (fun q => h3 q.1.symm)]
  refine hJ 0 _ _ _ _ ?_
  simp only [b_X1_copyFrom_0, goF_s, jmp_n, jmp_c, L_X1_copyFrom_0, g_nop, g_aload_n, g_getfield, g_putfield, g_return_, pI1, pL1, pII, pLL, pLI, pR1, pIR, pIIR, pLIR, pRIR, pRR, pCP, pV1, pV2, pV3, vI, vL, vR, popN, eSt, br1, gtF, ptF, ldK, cV, cI, cS, swJ, capO, capO_z, if00, if10, rv_s, kb_6, kb_11, kb_13, kb_15, kb_17, kb_18, kb_19, kb_23, kb_24, kb_25, kb_26, kb_29, kb_31, kb_35, kb_37, kb_41, kb_43, kb_44, kb_61, kb_75, kb_104, kb_7, kb_8, kb_9, kb_10, kb_12, kb_16, kb_20, kb_21, kb_30, kb_32, kb_40, kb_48, kb_50, kb_57, kb_59, kb_60, kb_63, kb_70, kb_78, kb_81, kb_82, kb_84, kb_97, kb_99, kb_100, kb_101, kb_119, kb_120, kb_122, ki_m1, ki_0, ki_1, ki_2, ki_3, ki_4, ki_5, ki_6, ki_7, ki_8, ki_9, ki_10, ki_11, ki_12, ki_13, ki_14, ki_15, ki_16, ki_17, ki_18, ki_19, ki_20, ki_21, ki_22, ki_23, ki_24, ki_25, ki_26, ki_27, ki_28, ki_29, ki_30, ki_31, ki_32, ki_33, ki_34, ki_35, ki_36, ki_37, ki_38, ki_39, ki_40, ki_41, ki_42, ki_43, ki_44, ki_45, ki_46, ki_47, ki_48, ki_49, ki_50, ki_51, ki_52, ki_53, ki_54, ki_55, ki_56, ki_57, ki_58, ki_59, ki_60, ki_61, ki_62, ki_63, ks_m2000, ks_m1006, ks_m1005, ks_m1004, ks_m1003, ks_m1002, ks_m1000, ks_200, ks_201, ks_300, ks_720, ks_9000, ks_10000, ks_250, ks_255, ks_256, ks_320, ks_660, ks_999, ks_1000, ks_9999, ks_12345, ne_2, ne_10, kc_0, kc_1, kf_0, kf_1, kf_2, kf_3, t_0, t_40, t_41, t_42, t_43, t_44, t_45, t_46, t_47, r_0_0, r_0_1, r_0_2, r_0_4, r_0_5, r_0_6, r_0_7, r_40_0, r_40_5, r_44_0, r_44_1, t_1, t_14, t_27, t_2, t_15, t_28, t_64, Nat.reduceEqDiff, ne_eq, not_false_eq_true, false_implies, true_implies, implies_true, Nat.reduceAdd, Nat.reduceLeDiff, Nat.reduceLT, Nat.reduceMul, or_true, true_or, if_true, if_false, not_true_eq_false, and_self, bF, Nat.reduceBEq, Bool.false_and, Bool.and_false, Bool.or_self, Bool.or_false, Bool.false_or, Bool.false_eq_true, Int.reduceAdd, Bool.and_self, Bool.true_and, Bool.and_true, beq_self_eq_true, List.drop, gL, sL, sL2, kilL, pad, slotsN, Value.category, List.length, List.head?, Option.map_some, Option.toList, List.nil_append, List.cons_append, lift_e, retOK, and_true, true_and, RtM_z, List.length_cons, List.length_nil, h1n, h1, h2n, h2, hn]
  exact hK
def P_X1_wishes : Sp0T := fun as h K => match as with
  | [.ref c, .int x, .int y] => (tC (SHn 0) c).1 = 1 ∧ K (some (.int (wish (gI h c 0) (gI h c 1) x y))) h
  | _ => False
def S_X1_wishes : SpT := lift P_X1_wishes
def L_X1_wishes_82 : List Item := (82, .iload_n 1, [], nS) :: (83, .invokestatic 46, [0, 1, 0, 0], S_X1_tenthUpward) :: (86, .ireturn, [], nS) :: []
def L_X1_wishes_75 : List Item := (75, .iload_n 1, [], nS) :: (76, .invokestatic 46, [0, 1, 0, 0], S_X1_tenthUpward) :: (79, .iconst 1, [], nS) :: (80, .iadd, [], nS) :: (81, .ireturn, [], nS) :: L_X1_wishes_82
def L_X1_wishes_74 : List Item := (74, .ireturn, [], nS) :: L_X1_wishes_75
def L_X1_wishes_73 : List Item := (73, .iconst 0, [], nS) :: L_X1_wishes_74
def L_X1_wishes_60 : List Item := (60, .iload_n 2, [], nS) :: (61, .iconst 2, [], nS) :: (62, .irem, [], nS) :: (63, .ifCond .ne 10, [73], nS) :: (66, .aload_n 0, [], nS) :: (67, .getfield 18, [1, 1, 0], nS) :: (70, .goto 4, [74], nS) :: L_X1_wishes_73
def L_X1_wishes_55 : List Item := (55, .aload_n 0, [], nS) :: (56, .getfield 18, [1, 1, 0], nS) :: (59, .ireturn, [], nS) :: L_X1_wishes_60
def L_X1_wishes_45 : List Item := (45, .iload_n 1, [], nS) :: (46, .invokestatic 42, [0, 1, 0, 0], S_X1_halfUpward) :: (49, .aload_n 0, [], nS) :: (50, .getfield 18, [1, 1, 0], nS) :: (53, .iadd, [], nS) :: (54, .ireturn, [], nS) :: L_X1_wishes_55
def L_X1_wishes_40 : List Item := (40, .iload_n 1, [], nS) :: (41, .invokestatic 42, [0, 1, 0, 0], S_X1_halfUpward) :: (44, .ireturn, [], nS) :: L_X1_wishes_45
def L_X1_wishes_0 : List Item := (0, .aload_n 0, [], nS) :: (1, .getfield 15, [1, 0, 0], nS) :: (4, .tableswitch 78 1 5 #[36, 51, 41, 56, 71], [40, 55, 45, 60, 75, 82], nS) :: L_X1_wishes_40
def L_X1_wishes : List Item := L_X1_wishes_0
theorem ok_X1_wishes : okB cX1_wishes L_X1_wishes = true := by decide +kernel
theorem lk_X1_wishes (l : Launch) : LKs l RX1 2 false L_X1_wishes := ⟨trivial, ⟨_, _, _, rfl, ⟨(RX1, TX1, 7), rfl, by decide, gT_of (List.mem_of_getElem? (i := 60) (by decide +kernel)) rfl⟩, rfl⟩, trivial, trivial, Or.inl ⟨_, _, _, _, _, _, _, _, rfl, c_X1_halfUpward l, yv_X1_halfUpward, by decide, gT_of (List.mem_of_getElem? (i := 506) (by decide +kernel)) rfl⟩, trivial, trivial, Or.inl ⟨_, _, _, _, _, _, _, _, rfl, c_X1_halfUpward l, yv_X1_halfUpward, by decide, gT_of (List.mem_of_getElem? (i := 506) (by decide +kernel)) rfl⟩, trivial, ⟨_, _, _, rfl, ⟨(RX1, TX1, 7), rfl, by decide, gT_of (List.mem_of_getElem? (i := 62) (by decide +kernel)) rfl⟩, rfl⟩, trivial, trivial, trivial, ⟨_, _, _, rfl, ⟨(RX1, TX1, 7), rfl, by decide, gT_of (List.mem_of_getElem? (i := 62) (by decide +kernel)) rfl⟩, rfl⟩, trivial, trivial, trivial, trivial, trivial, trivial, ⟨_, _, _, rfl, ⟨(RX1, TX1, 7), rfl, by decide, gT_of (List.mem_of_getElem? (i := 62) (by decide +kernel)) rfl⟩, rfl⟩, trivial, trivial, trivial, trivial, Or.inl ⟨_, _, _, _, _, _, _, _, rfl, c_X1_tenthUpward l, yv_X1_tenthUpward, by decide, gT_of (List.mem_of_getElem? (i := 509) (by decide +kernel)) rfl⟩, trivial, trivial, trivial, trivial, Or.inl ⟨_, _, _, _, _, _, _, _, rfl, c_X1_tenthUpward l, yv_X1_tenthUpward, by decide, gT_of (List.mem_of_getElem? (i := 509) (by decide +kernel)) rfl⟩, trivial, trivial⟩
theorem b_X1_wishes_0 : atL L_X1_wishes 0 = L_X1_wishes_0 := rfl
theorem b_X1_wishes_40 : atL L_X1_wishes 40 = L_X1_wishes_40 := rfl
theorem b_X1_wishes_45 : atL L_X1_wishes 45 = L_X1_wishes_45 := rfl
theorem b_X1_wishes_55 : atL L_X1_wishes 55 = L_X1_wishes_55 := rfl
theorem b_X1_wishes_60 : atL L_X1_wishes 60 = L_X1_wishes_60 := rfl
theorem b_X1_wishes_73 : atL L_X1_wishes 73 = L_X1_wishes_73 := rfl
theorem b_X1_wishes_74 : atL L_X1_wishes 74 = L_X1_wishes_74 := rfl
theorem b_X1_wishes_75 : atL L_X1_wishes 75 = L_X1_wishes_75 := rfl
theorem b_X1_wishes_82 : atL L_X1_wishes 82 = L_X1_wishes_82 := rfl
theorem a_X1_wishes_40 : afw L_X1_wishes [] 40 = L_X1_wishes_40 := rfl
theorem a_X1_wishes_45 : afw L_X1_wishes [] 45 = L_X1_wishes_45 := rfl
theorem a_X1_wishes_55 : afw L_X1_wishes [] 55 = L_X1_wishes_55 := rfl
theorem a_X1_wishes_60 : afw L_X1_wishes [] 60 = L_X1_wishes_60 := rfl
theorem a_X1_wishes_73 : afw L_X1_wishes [] 73 = L_X1_wishes_73 := rfl
theorem a_X1_wishes_74 : afw L_X1_wishes [] 74 = L_X1_wishes_74 := rfl
theorem a_X1_wishes_75 : afw L_X1_wishes [] 75 = L_X1_wishes_75 := rfl
theorem a_X1_wishes_82 : afw L_X1_wishes [] 82 = L_X1_wishes_82 := rfl
theorem yv_X1_wishes : YV yX1_wishes cX1_wishes 3 (some .int) 2 1 := ⟨⟨gT_of (List.mem_of_getElem? (i := 505) (by decide +kernel)) rfl, gT_of (List.mem_of_getElem? (i := 28) (by decide +kernel)) rfl, ⟨by decide, by decide⟩, by decide +kernel, by decide⟩, gT_of (List.mem_of_getElem? (i := 504) (by decide +kernel)) rfl, gT_of (List.mem_of_getElem? (i := 15) (by decide +kernel)) rfl, rfl⟩
set_option maxRecDepth 100000 in
set_option maxHeartbeats 4000000 in
theorem c_X1_wishes (l : Launch) : Ct l yX1_wishes cX1_wishes 3 (some .int) 2 0 0 S_X1_wishes := by
  refine Ct0_mk L_X1_wishes [] (by decide +kernel) (by decide) ok_X1_wishes (lk_X1_wishes l) ?_
  intro nn as h K hP
  match as, hP with
  | [.ref c, .int x, .int y], ⟨h1, hK⟩ =>
  refine ⟨by simp [slotsN, Value.category], fun J hJ => ?_⟩
  have h1n := tn (nn := nn) (by decide) h1
  refine hJ 0 _ _ _ _ ?_
  simp only [b_X1_wishes_0, goF_s, jmp_n, jmp_c, L_X1_wishes_0, L_X1_wishes_40, L_X1_wishes_45, L_X1_wishes_55, L_X1_wishes_60, L_X1_wishes_73, L_X1_wishes_74, L_X1_wishes_75, L_X1_wishes_82, a_X1_wishes_40, a_X1_wishes_45, a_X1_wishes_55, a_X1_wishes_60, a_X1_wishes_73, a_X1_wishes_74, a_X1_wishes_75, a_X1_wishes_82, g_nop, g_iconst, g_iload_n, g_aload_n, g_iadd, g_irem, g_if_eq, g_if_ne, g_if_lt, g_if_ge, g_if_gt, g_if_le, g_goto, g_tableswitch, g_getfield, g_invokestatic, g_ireturn, pI1, pL1, pII, pLL, pLI, pR1, pIR, pIIR, pLIR, pRIR, pRR, pCP, pV1, pV2, pV3, vI, vL, vR, popN, eSt, br1, gtF, ptF, ldK, cV, cI, cS, swJ, capO, S_X1_halfUpward, S_X1_tenthUpward, P_X1_halfUpward, P_X1_tenthUpward, capO_z, if00, if10, rv_s, kb_6, kb_11, kb_13, kb_15, kb_17, kb_18, kb_19, kb_23, kb_24, kb_25, kb_26, kb_29, kb_31, kb_35, kb_37, kb_41, kb_43, kb_44, kb_61, kb_75, kb_104, kb_7, kb_8, kb_9, kb_10, kb_12, kb_16, kb_20, kb_21, kb_30, kb_32, kb_40, kb_48, kb_50, kb_57, kb_59, kb_60, kb_63, kb_70, kb_78, kb_81, kb_82, kb_84, kb_97, kb_99, kb_100, kb_101, kb_119, kb_120, kb_122, ki_m1, ki_0, ki_1, ki_2, ki_3, ki_4, ki_5, ki_6, ki_7, ki_8, ki_9, ki_10, ki_11, ki_12, ki_13, ki_14, ki_15, ki_16, ki_17, ki_18, ki_19, ki_20, ki_21, ki_22, ki_23, ki_24, ki_25, ki_26, ki_27, ki_28, ki_29, ki_30, ki_31, ki_32, ki_33, ki_34, ki_35, ki_36, ki_37, ki_38, ki_39, ki_40, ki_41, ki_42, ki_43, ki_44, ki_45, ki_46, ki_47, ki_48, ki_49, ki_50, ki_51, ki_52, ki_53, ki_54, ki_55, ki_56, ki_57, ki_58, ki_59, ki_60, ki_61, ki_62, ki_63, ks_m2000, ks_m1006, ks_m1005, ks_m1004, ks_m1003, ks_m1002, ks_m1000, ks_200, ks_201, ks_300, ks_720, ks_9000, ks_10000, ks_250, ks_255, ks_256, ks_320, ks_660, ks_999, ks_1000, ks_9999, ks_12345, ne_2, ne_10, kc_0, kc_1, kf_0, kf_1, kf_2, kf_3, t_0, t_40, t_41, t_42, t_43, t_44, t_45, t_46, t_47, r_0_0, r_0_1, r_0_2, r_0_4, r_0_5, r_0_6, r_0_7, r_40_0, r_40_5, r_44_0, r_44_1, t_1, t_14, t_27, t_2, t_15, t_28, t_64, Nat.reduceEqDiff, ne_eq, not_false_eq_true, false_implies, true_implies, implies_true, Nat.reduceAdd, Nat.reduceLeDiff, Nat.reduceLT, Nat.reduceMul, or_true, true_or, if_true, if_false, not_true_eq_false, and_self, bF, Nat.reduceBEq, Bool.false_and, Bool.and_false, Bool.or_self, Bool.or_false, Bool.false_or, Bool.false_eq_true, Int.reduceAdd, Bool.and_self, Bool.true_and, Bool.and_true, beq_self_eq_true, List.drop, gL, sL, sL2, kilL, pad, slotsN, Value.category, List.length, List.head?, Option.map_some, Option.toList, List.nil_append, List.cons_append, lift_e, retOK, and_true, true_and, RtM_z, List.length_cons, List.length_nil, h1n, h1]
  simp only [wish] at hK
  grind
def P_X1_wouldUse : Sp0T := fun as h K => match as with
  | [.ref c, .int x, .int y] => (tC (SHn 0) c).1 = 1 ∧ K (some (.int (useI (gI h c 0) (gI h c 1) x y))) h
  | _ => False
def S_X1_wouldUse : SpT := lift P_X1_wouldUse
def L_X1_wouldUse_0 : List Item := (0, .iload_n 1, [], nS) :: (1, .aload_n 0, [], nS) :: (2, .iload_n 1, [], nS) :: (3, .iload_n 2, [], nS) :: (4, .invokevirtual 33, [2, 1, 0, 0], S_X1_wishes) :: (7, .invokestatic 37, [1], nS) :: (10, .ireturn, [], nS) :: []
def L_X1_wouldUse : List Item := L_X1_wouldUse_0
theorem ok_X1_wouldUse : okB cX1_wouldUse L_X1_wouldUse = true := by decide +kernel
theorem lk_X1_wouldUse (l : Launch) : LKs l RX1 3 false L_X1_wouldUse := ⟨trivial, trivial, trivial, trivial, ⟨_, _, _, _, _, _, _, _, _, rfl, c_X1_wishes l, Or.inl ⟨by decide, yv_X1_wishes⟩, by decide, gT_of (List.mem_of_getElem? (i := 502) (by decide +kernel)) rfl⟩, Or.inr (Or.inl ⟨rfl, gT_of (List.mem_of_getElem? (i := 510) (by decide +kernel)) rfl⟩), trivial, trivial⟩
theorem b_X1_wouldUse_0 : atL L_X1_wouldUse 0 = L_X1_wouldUse_0 := rfl
theorem yv_X1_wouldUse : YV yX1_wouldUse cX1_wouldUse 3 (some .int) 2 1 := ⟨⟨gT_of (List.mem_of_getElem? (i := 501) (by decide +kernel)) rfl, gT_of (List.mem_of_getElem? (i := 28) (by decide +kernel)) rfl, ⟨by decide, by decide⟩, by decide +kernel, by decide⟩, gT_of (List.mem_of_getElem? (i := 499) (by decide +kernel)) rfl, gT_of (List.mem_of_getElem? (i := 500) (by decide +kernel)) rfl, rfl⟩
set_option maxRecDepth 100000 in
set_option maxHeartbeats 4000000 in
theorem c_X1_wouldUse (l : Launch) : Ct l yX1_wouldUse cX1_wouldUse 3 (some .int) 3 0 0 S_X1_wouldUse := by
  refine Ct0_mk L_X1_wouldUse [] (by decide +kernel) (by decide) ok_X1_wouldUse (lk_X1_wouldUse l) ?_
  intro nn as h K hP
  match as, hP with
  | [.ref c, .int x, .int y], ⟨h1, hK⟩ =>
  refine ⟨by simp [slotsN, Value.category], fun J hJ => ?_⟩
  have h1n := tn (nn := nn) (by decide) h1
  refine hJ 0 _ _ _ _ ?_
  simp only [b_X1_wouldUse_0, goF_s, jmp_n, jmp_c, L_X1_wouldUse_0, g_nop, g_iload_n, g_aload_n, g_invokevirtual, g_invokestatic, g_ireturn, pI1, pL1, pII, pLL, pLI, pR1, pIR, pIIR, pLIR, pRIR, pRR, pCP, pV1, pV2, pV3, vI, vL, vR, popN, eSt, br1, gtF, ptF, ldK, cV, cI, cS, swJ, capO, S_X1_wishes, P_X1_wishes, capO_z, if00, if10, rv_s, kb_6, kb_11, kb_13, kb_15, kb_17, kb_18, kb_19, kb_23, kb_24, kb_25, kb_26, kb_29, kb_31, kb_35, kb_37, kb_41, kb_43, kb_44, kb_61, kb_75, kb_104, kb_7, kb_8, kb_9, kb_10, kb_12, kb_16, kb_20, kb_21, kb_30, kb_32, kb_40, kb_48, kb_50, kb_57, kb_59, kb_60, kb_63, kb_70, kb_78, kb_81, kb_82, kb_84, kb_97, kb_99, kb_100, kb_101, kb_119, kb_120, kb_122, ki_m1, ki_0, ki_1, ki_2, ki_3, ki_4, ki_5, ki_6, ki_7, ki_8, ki_9, ki_10, ki_11, ki_12, ki_13, ki_14, ki_15, ki_16, ki_17, ki_18, ki_19, ki_20, ki_21, ki_22, ki_23, ki_24, ki_25, ki_26, ki_27, ki_28, ki_29, ki_30, ki_31, ki_32, ki_33, ki_34, ki_35, ki_36, ki_37, ki_38, ki_39, ki_40, ki_41, ki_42, ki_43, ki_44, ki_45, ki_46, ki_47, ki_48, ki_49, ki_50, ki_51, ki_52, ki_53, ki_54, ki_55, ki_56, ki_57, ki_58, ki_59, ki_60, ki_61, ki_62, ki_63, ks_m2000, ks_m1006, ks_m1005, ks_m1004, ks_m1003, ks_m1002, ks_m1000, ks_200, ks_201, ks_300, ks_720, ks_9000, ks_10000, ks_250, ks_255, ks_256, ks_320, ks_660, ks_999, ks_1000, ks_9999, ks_12345, ne_2, ne_10, kc_0, kc_1, kf_0, kf_1, kf_2, kf_3, t_0, t_40, t_41, t_42, t_43, t_44, t_45, t_46, t_47, r_0_0, r_0_1, r_0_2, r_0_4, r_0_5, r_0_6, r_0_7, r_40_0, r_40_5, r_44_0, r_44_1, t_1, t_14, t_27, t_2, t_15, t_28, t_64, Nat.reduceEqDiff, ne_eq, not_false_eq_true, false_implies, true_implies, implies_true, Nat.reduceAdd, Nat.reduceLeDiff, Nat.reduceLT, Nat.reduceMul, or_true, true_or, if_true, if_false, not_true_eq_false, and_self, bF, Nat.reduceBEq, Bool.false_and, Bool.and_false, Bool.or_self, Bool.or_false, Bool.false_or, Bool.false_eq_true, Int.reduceAdd, Bool.and_self, Bool.true_and, Bool.and_true, beq_self_eq_true, List.drop, gL, sL, sL2, kilL, pad, slotsN, Value.category, List.length, List.head?, Option.map_some, Option.toList, List.nil_append, List.cons_append, lift_e, retOK, and_true, true_and, RtM_z, List.length_cons, List.length_nil, h1n, h1]
  exact hK

def kindB (k w : Int32) : Int32 := if w = 0 ∨ k = w ∨ (w = 1 ∧ k = 3) ∨ (w = 2 ∧ k = 4) then 1 else 0