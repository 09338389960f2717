variable {nn : Nat}
/-! ===== Shelf and Opinions ===== -/
theorem lc_c (x y : Int64) : (lg_cmp x y = 1 ∧ y.toInt < x.toInt) ∨ (lg_cmp x y = 0 ∧ x.toInt = y.toInt) ∨ (lg_cmp x y = -1 ∧ x.toInt < y.toInt) := by
  unfold lg_cmp
  by_cases h : x > y
  · exact Or.inl ⟨if_pos h, Int64.lt_iff_toInt_lt.mp h⟩
  · by_cases h2 : x = y
    · exact Or.inr (Or.inl ⟨by rw [if_neg h, if_pos h2], by rw [h2]⟩)
    · refine Or.inr (Or.inr ⟨by rw [if_neg h, if_neg h2], ?_⟩)
      have h3 : ¬ y.toInt < x.toInt := fun q => h (Int64.lt_iff_toInt_lt.mpr q)
      have h4 : ¬ x.toInt = y.toInt := fun q => h2 (Int64.toInt_inj.mp q)
      omega
theorem lc_lt (x y : Int64) : (lg_cmp x y < 0) = (x < y) := by
  rw [Int64.lt_iff_toInt_lt]
  rcases lc_c x y with ⟨e, h⟩ | ⟨e, h⟩ | ⟨e, h⟩ <;> rw [e] <;> first | exact propext ⟨fun q => absurd q (by decide), fun q => by omega⟩ | exact propext ⟨fun _ => h, fun _ => by decide⟩
theorem lc_gt (x y : Int64) : (0 < lg_cmp x y) = (y < x) := by
  rw [Int64.lt_iff_toInt_lt]
  rcases lc_c x y with ⟨e, h⟩ | ⟨e, h⟩ | ⟨e, h⟩ <;> rw [e] <;> first | exact propext ⟨fun q => absurd q (by decide), fun q => by omega⟩ | exact propext ⟨fun _ => h, fun _ => by decide⟩
theorem lc_ge (x y : Int64) : (0 ≤ lg_cmp x y) = (y ≤ x) := by
  rw [Int64.le_iff_toInt_le]
  rcases lc_c x y with ⟨e, h⟩ | ⟨e, h⟩ | ⟨e, h⟩ <;> rw [e] <;> first | exact propext ⟨fun q => absurd q (by decide), fun q => by omega⟩ | exact propext ⟨fun _ => by omega, fun _ => by decide⟩
theorem lc_le (x y : Int64) : (lg_cmp x y ≤ 0) = (x ≤ y) := by
  rw [Int64.le_iff_toInt_le]
  rcases lc_c x y with ⟨e, h⟩ | ⟨e, h⟩ | ⟨e, h⟩ <;> rw [e] <;> first | exact propext ⟨fun q => absurd q (by decide), fun q => by omega⟩ | exact propext ⟨fun _ => by omega, fun _ => by decide⟩
theorem lc_eq (x y : Int64) : (lg_cmp x y = 0) = (x = y) := by
  rw [← Int64.toInt_inj]
  rcases lc_c x y with ⟨e, h⟩ | ⟨e, h⟩ | ⟨e, h⟩ <;> rw [e] <;> first | exact propext ⟨fun q => absurd q (by decide), fun q => by omega⟩ | exact propext ⟨fun _ => by omega, fun _ => by decide⟩
def P_X3_isEmpty : Sp0T := fun as h K => match as with
  | [.ref c] => (tC (SHn 0) c).1 = 3 ∧ K (some (.int (b2i (gI h c 0 = -1)))) h
  | _ => False
def S_X3_isEmpty : SpT := lift P_X3_isEmpty
def L_X3_isEmpty_13 : List Item := (13, .ireturn, [], nS) :: []
def L_X3_isEmpty_12 : List Item := (12, .iconst 0, [], nS) :: L_X3_isEmpty_13
def L_X3_isEmpty_0 : List Item := (0, .aload_n 0, [], nS) :: (1, .getfield 9, [3, 0, 0], nS) :: (4, .iconst (-1), [], nS) :: (5, .if_icmp .ne 7, [12], nS) :: (8, .iconst 1, [], nS) :: (9, .goto 4, [13], nS) :: L_X3_isEmpty_12
def L_X3_isEmpty : List Item := L_X3_isEmpty_0
theorem ok_X3_isEmpty : okB cX3_isEmpty L_X3_isEmpty = true := by decide +kernel
theorem lk_X3_isEmpty (l : Launch) : LKs l RX3 1 false L_X3_isEmpty := ⟨trivial, ⟨_, _, _, rfl, ⟨(RX3, TX3, 3), rfl, by decide, gT_of (List.mem_of_getElem? (i := 177) (by decide +kernel)) rfl⟩, rfl⟩, trivial, trivial, trivial, trivial, trivial, trivial, trivial⟩
theorem b_X3_isEmpty_0 : atL L_X3_isEmpty 0 = L_X3_isEmpty_0 := rfl
theorem b_X3_isEmpty_12 : atL L_X3_isEmpty 12 = L_X3_isEmpty_12 := rfl
theorem b_X3_isEmpty_13 : atL L_X3_isEmpty 13 = L_X3_isEmpty_13 := rfl
theorem a_X3_isEmpty_12 : afw L_X3_isEmpty [] 12 = L_X3_isEmpty_12 := rfl
theorem a_X3_isEmpty_13 : afw L_X3_isEmpty [] 13 = L_X3_isEmpty_13 := rfl
theorem yv_X3_isEmpty : YV yX3_isEmpty cX3_isEmpty 1 (some .boolean) 0 3 := ⟨⟨gT_of (List.mem_of_getElem? (i := 249) (by decide +kernel)) rfl, gT_of (List.mem_of_getElem? (i := 31) (by decide +kernel)) rfl, ⟨by decide, by decide⟩, by decide +kernel, by decide⟩, gT_of (List.mem_of_getElem? (i := 247) (by decide +kernel)) rfl, gT_of (List.mem_of_getElem? (i := 248) (by decide +kernel)) rfl, rfl⟩
set_option maxRecDepth 100000 in
set_option maxHeartbeats 4000000 in
theorem c_X3_isEmpty (l : Launch) : Ct l yX3_isEmpty cX3_isEmpty 1 (some .boolean) 1 0 0 S_X3_isEmpty := by
  refine Ct0_mk L_X3_isEmpty [] (by decide +kernel) (by decide) ok_X3_isEmpty (lk_X3_isEmpty l) ?_
  intro nn as h K hP
  match as, hP with
  | [.ref c], ⟨h1, hK⟩ =>
  refine ⟨by simp [slotsN, Value.category], fun J hJ => ?_⟩
  have h1n := tn (nn := nn) (by decide) h1
  refine hJ 0 _ _ _ _ ?_
  simp only [b_X3_isEmpty_0, goF_s, jmp_n, jmp_c, L_X3_isEmpty_0, L_X3_isEmpty_12, L_X3_isEmpty_13, a_X3_isEmpty_12, a_X3_isEmpty_13, g_nop, g_iconst, g_aload_n, g_ic_eq, g_ic_ne, g_ic_lt, g_ic_ge, g_ic_gt, g_ic_le, g_goto, g_getfield, g_ireturn, pI1, pL1, pII, pLL, pLI, pR1, pIR, pIIR, pLIR, pRIR, pRR, pCP, pV1, pV2, pV3, vI, vL, vR, popN, eSt, br1, gtF, ptF, ldK, cV, cI, cS, swJ, capO, capO_z, if00, if10, rv_s, kb_6, kb_11, kb_13, kb_15, kb_17, kb_18, kb_19, kb_23, kb_24, kb_25, kb_26, kb_29, kb_31, kb_35, kb_37, kb_41, kb_43, kb_44, kb_61, kb_75, kb_104, kb_7, kb_8, kb_9, kb_10, kb_12, kb_16, kb_20, kb_21, kb_30, kb_32, kb_40, kb_48, kb_50, kb_57, kb_59, kb_60, kb_63, kb_70, kb_78, kb_81, kb_82, kb_84, kb_97, kb_99, kb_100, kb_101, kb_119, kb_120, kb_122, ki_m1, ki_0, ki_1, ki_2, ki_3, ki_4, ki_5, ki_6, ki_7, ki_8, ki_9, ki_10, ki_11, ki_12, ki_13, ki_14, ki_15, ki_16, ki_17, ki_18, ki_19, ki_20, ki_21, ki_22, ki_23, ki_24, ki_25, ki_26, ki_27, ki_28, ki_29, ki_30, ki_31, ki_32, ki_33, ki_34, ki_35, ki_36, ki_37, ki_38, ki_39, ki_40, ki_41, ki_42, ki_43, ki_44, ki_45, ki_46, ki_47, ki_48, ki_49, ki_50, ki_51, ki_52, ki_53, ki_54, ki_55, ki_56, ki_57, ki_58, ki_59, ki_60, ki_61, ki_62, ki_63, ks_m2000, ks_m1006, ks_m1005, ks_m1004, ks_m1003, ks_m1002, ks_m1000, ks_200, ks_201, ks_300, ks_720, ks_9000, ks_10000, ks_250, ks_255, ks_256, ks_320, ks_660, ks_999, ks_1000, ks_9999, ks_12345, ne_2, ne_10, kc_0, kc_1, kf_0, kf_1, kf_2, kf_3, t_0, t_40, t_41, t_42, t_43, t_44, t_45, t_46, t_47, r_0_0, r_0_1, r_0_2, r_0_4, r_0_5, r_0_6, r_0_7, r_40_0, r_40_5, r_44_0, r_44_1, t_1, t_14, t_27, t_2, t_15, t_28, t_64, Nat.reduceEqDiff, ne_eq, not_false_eq_true, false_implies, true_implies, implies_true, Nat.reduceAdd, Nat.reduceLeDiff, Nat.reduceLT, Nat.reduceMul, or_true, true_or, if_true, if_false, not_true_eq_false, and_self, bF, Nat.reduceBEq, Bool.false_and, Bool.and_false, Bool.or_self, Bool.or_false, Bool.false_or, Bool.false_eq_true, Int.reduceAdd, Bool.and_self, Bool.true_and, Bool.and_true, beq_self_eq_true, List.drop, gL, sL, sL2, kilL, pad, slotsN, Value.category, List.length, List.head?, Option.map_some, Option.toList, List.nil_append, List.cons_append, lift_e, retOK, and_true, true_and, RtM_z, List.length_cons, List.length_nil, h1n, h1]
  unfold b2i at hK
  grind
def P_X3_showsHeir : Sp0T := fun as h K => match as with
  | [.ref c] => (tC (SHn 0) c).1 = 3 ∧ K (some (.int (b2i (10 ≤ gI h c 0)))) h
  | _ => False
def S_X3_showsHeir : SpT := lift P_X3_showsHeir
def L_X3_showsHeir_14 : List Item := (14, .ireturn, [], nS) :: []
def L_X3_showsHeir_13 : List Item := (13, .iconst 0, [], nS) :: L_X3_showsHeir_14
def L_X3_showsHeir_0 : List Item := (0, .aload_n 0, [], nS) :: (1, .getfield 9, [3, 0, 0], nS) :: (4, .bipush 10, [], nS) :: (6, .if_icmp .lt 7, [13], nS) :: (9, .iconst 1, [], nS) :: (10, .goto 4, [14], nS) :: L_X3_showsHeir_13
def L_X3_showsHeir : List Item := L_X3_showsHeir_0
theorem ok_X3_showsHeir : okB cX3_showsHeir L_X3_showsHeir = true := by decide +kernel
theorem lk_X3_showsHeir (l : Launch) : LKs l RX3 1 false L_X3_showsHeir := ⟨trivial, ⟨_, _, _, rfl, ⟨(RX3, TX3, 3), rfl, by decide, gT_of (List.mem_of_getElem? (i := 177) (by decide +kernel)) rfl⟩, rfl⟩, trivial, trivial, trivial, trivial, trivial, trivial, trivial⟩
theorem b_X3_showsHeir_0 : atL L_X3_showsHeir 0 = L_X3_showsHeir_0 := rfl
theorem b_X3_showsHeir_13 : atL L_X3_showsHeir 13 = L_X3_showsHeir_13 := rfl
theorem b_X3_showsHeir_14 : atL L_X3_showsHeir 14 = L_X3_showsHeir_14 := rfl
theorem a_X3_showsHeir_13 : afw L_X3_showsHeir [] 13 = L_X3_showsHeir_13 := rfl
theorem a_X3_showsHeir_14 : afw L_X3_showsHeir [] 14 = L_X3_showsHeir_14 := rfl
theorem yv_X3_showsHeir : YV yX3_showsHeir cX3_showsHeir 1 (some .boolean) 0 3 := ⟨⟨gT_of (List.mem_of_getElem? (i := 245) (by decide +kernel)) rfl, gT_of (List.mem_of_getElem? (i := 31) (by decide +kernel)) rfl, ⟨by decide, by decide⟩, by decide +kernel, by decide⟩, gT_of (List.mem_of_getElem? (i := 243) (by decide +kernel)) rfl, gT_of (List.mem_of_getElem? (i := 244) (by decide +kernel)) rfl, rfl⟩
set_option maxRecDepth 100000 in
set_option maxHeartbeats 4000000 in
theorem c_X3_showsHeir (l : Launch) : Ct l yX3_showsHeir cX3_showsHeir 1 (some .boolean) 1 0 0 S_X3_showsHeir := by
  refine Ct0_mk L_X3_showsHeir [] (by decide +kernel) (by decide) ok_X3_showsHeir (lk_X3_showsHeir l) ?_
  intro nn as h K hP
  match as, hP with
  | [.ref c], ⟨h1, hK⟩ =>
  refine ⟨by simp [slotsN, Value.category], fun J hJ => ?_⟩
  have h1n := tn (nn := nn) (by decide) h1
  refine hJ 0 _ _ _ _ ?_
  simp only [b_X3_showsHeir_0, goF_s, jmp_n, jmp_c, L_X3_showsHeir_0, L_X3_showsHeir_13, L_X3_showsHeir_14, a_X3_showsHeir_13, a_X3_showsHeir_14, g_nop, g_iconst, g_bipush, g_aload_n, g_ic_eq, g_ic_ne, g_ic_lt, g_ic_ge, g_ic_gt, g_ic_le, g_goto, g_getfield, g_ireturn, pI1, pL1, pII, pLL, pLI, pR1, pIR, pIIR, pLIR, pRIR, pRR, pCP, pV1, pV2, pV3, vI, vL, vR, popN, eSt, br1, gtF, ptF, ldK, cV, cI, cS, swJ, capO, capO_z, if00, if10, rv_s, kb_6, kb_11, kb_13, kb_15, kb_17, kb_18, kb_19, kb_23, kb_24, kb_25, kb_26, kb_29, kb_31, kb_35, kb_37, kb_41, kb_43, kb_44, kb_61, kb_75, kb_104, kb_7, kb_8, kb_9, kb_10, kb_12, kb_16, kb_20, kb_21, kb_30, kb_32, kb_40, kb_48, kb_50, kb_57, kb_59, kb_60, kb_63, kb_70, kb_78, kb_81, kb_82, kb_84, kb_97, kb_99, kb_100, kb_101, kb_119, kb_120, kb_122, ki_m1, ki_0, ki_1, ki_2, ki_3, ki_4, ki_5, ki_6, ki_7, ki_8, ki_9, ki_10, ki_11, ki_12, ki_13, ki_14, ki_15, ki_16, ki_17, ki_18, ki_19, ki_20, ki_21, ki_22, ki_23, ki_24, ki_25, ki_26, ki_27, ki_28, ki_29, ki_30, ki_31, ki_32, ki_33, ki_34, ki_35, ki_36, ki_37, ki_38, ki_39, ki_40, ki_41, ki_42, ki_43, ki_44, ki_45, ki_46, ki_47, ki_48, ki_49, ki_50, ki_51, ki_52, ki_53, ki_54, ki_55, ki_56, ki_57, ki_58, ki_59, ki_60, ki_61, ki_62, ki_63, ks_m2000, ks_m1006, ks_m1005, ks_m1004, ks_m1003, ks_m1002, ks_m1000, ks_200, ks_201, ks_300, ks_720, ks_9000, ks_10000, ks_250, ks_255, ks_256, ks_320, ks_660, ks_999, ks_1000, ks_9999, ks_12345, ne_2, ne_10, kc_0, kc_1, kf_0, kf_1, kf_2, kf_3, t_0, t_40, t_41, t_42, t_43, t_44, t_45, t_46, t_47, r_0_0, r_0_1, r_0_2, r_0_4, r_0_5, r_0_6, r_0_7, r_40_0, r_40_5, r_44_0, r_44_1, t_1, t_14, t_27, t_2, t_15, t_28, t_64, Nat.reduceEqDiff, ne_eq, not_false_eq_true, false_implies, true_implies, implies_true, Nat.reduceAdd, Nat.reduceLeDiff, Nat.reduceLT, Nat.reduceMul, or_true, true_or, if_true, if_false, not_true_eq_false, and_self, bF, Nat.reduceBEq, Bool.false_and, Bool.and_false, Bool.or_self, Bool.or_false, Bool.false_or, Bool.false_eq_true, Int.reduceAdd, Bool.and_self, Bool.true_and, Bool.and_true, beq_self_eq_true, List.drop, gL, sL, sL2, kilL, pad, slotsN, Value.category, List.length, List.head?, Option.map_some, Option.toList, List.nil_append, List.cons_append, lift_e, retOK, and_true, true_and, RtM_z, List.length_cons, List.length_nil, h1n, h1]
  unfold b2i at hK
  refine ⟨fun q => ?_, fun q => ?_⟩
  · rw [if_neg (Int32.not_le.mpr q)] at hK
    exact hK
  · rw [if_pos (Int32.not_lt.mp q)] at hK
    exact hK
def P_X3_clear : Sp0T := fun as h K => match as with
  | [.ref c] => (tC (SHn 0) c).1 = 3 ∧ K none (pI (pI h c 0 (-1)) c 1 0)
  | _ => False
def S_X3_clear : SpT := lift P_X3_clear
def L_X3_clear_0 : List Item := (0, .aload_n 0, [], nS) :: (1, .iconst (-1), [], nS) :: (2, .putfield 9, [3, 0, 0], nS) :: (5, .aload_n 0, [], nS) :: (6, .iconst 0, [], nS) :: (7, .putfield 26, [3, 1, 0], nS) :: (10, .return_, [], nS) :: []
def L_X3_clear : List Item := L_X3_clear_0
theorem ok_X3_clear : okB cX3_clear L_X3_clear = true := by decide +kernel
theorem lk_X3_clear (l : Launch) : LKs l RX3 1 false L_X3_clear := ⟨trivial, trivial, ⟨_, _, _, rfl, ⟨(RX3, TX3, 3), rfl, by decide, gT_of (List.mem_of_getElem? (i := 177) (by decide +kernel)) rfl⟩, rfl, fun q => absurd rfl q⟩, trivial, trivial, ⟨_, _, _, rfl, ⟨(RX3, TX3, 3), rfl, by decide, gT_of (List.mem_of_getElem? (i := 180) (by decide +kernel)) rfl⟩, rfl, fun q => absurd rfl q⟩, trivial, trivial⟩
theorem b_X3_clear_0 : atL L_X3_clear 0 = L_X3_clear_0 := rfl
theorem yv_X3_clear : YV yX3_clear cX3_clear 1 none 0 3 := ⟨⟨gT_of (List.mem_of_getElem? (i := 273) (by decide +kernel)) rfl, gT_of (List.mem_of_getElem? (i := 31) (by decide +kernel)) rfl, ⟨by decide, by decide⟩, by decide +kernel, by decide⟩, gT_of (List.mem_of_getElem? (i := 271) (by decide +kernel)) rfl, gT_of (List.mem_of_getElem? (i := 272) (by decide +kernel)) rfl, rfl⟩
set_option maxRecDepth 100000 in
set_option maxHeartbeats 4000000 in
theorem c_X3_clear (l : Launch) : Ct l yX3_clear cX3_clear 1 none 1 0 0 S_X3_clear := by
  refine Ct0_mk L_X3_clear [] (by decide +kernel) (by decide) ok_X3_clear (lk_X3_clear l) ?_
  intro nn as h K hP
  match as, hP with
  | [.ref c], ⟨h1, hK⟩ =>
  refine ⟨by simp [slotsN, Value.category], fun J hJ => ?_⟩
  have h1n := tn (nn := nn) (by decide) h1
  refine hJ 0 _ _ _ _ ?_
  simp only [b_X3_clear_0, goF_s, jmp_n, jmp_c, L_X3_clear_0, g_nop, g_iconst, g_aload_n, g_putfield, g_return_, pI1, pL1, pII, pLL, pLI, pR1, pIR, pIIR, pLIR, pRIR, pRR, pCP, pV1, pV2, pV3, vI, vL, vR, popN, eSt, br1, gtF, ptF, ldK, cV, cI, cS, swJ, capO, capO_z, if00, if10, rv_s, kb_6, kb_11, kb_13, kb_15, kb_17, kb_18, kb_19, kb_23, kb_24, kb_25, kb_26, kb_29, kb_31, kb_35, kb_37, kb_41, kb_43, kb_44, kb_61, kb_75, kb_104, kb_7, kb_8, kb_9, kb_10, kb_12, kb_16, kb_20, kb_21, kb_30, kb_32, kb_40, kb_48, kb_50, kb_57, kb_59, kb_60, kb_63, kb_70, kb_78, kb_81, kb_82, kb_84, kb_97, kb_99, kb_100, kb_101, kb_119, kb_120, kb_122, ki_m1, ki_0, ki_1, ki_2, ki_3, ki_4, ki_5, ki_6, ki_7, ki_8, ki_9, ki_10, ki_11, ki_12, ki_13, ki_14, ki_15, ki_16, ki_17, ki_18, ki_19, ki_20, ki_21, ki_22, ki_23, ki_24, ki_25, ki_26, ki_27, ki_28, ki_29, ki_30, ki_31, ki_32, ki_33, ki_34, ki_35, ki_36, ki_37, ki_38, ki_39, ki_40, ki_41, ki_42, ki_43, ki_44, ki_45, ki_46, ki_47, ki_48, ki_49, ki_50, ki_51, ki_52, ki_53, ki_54, ki_55, ki_56, ki_57, ki_58, ki_59, ki_60, ki_61, ki_62, ki_63, ks_m2000, ks_m1006, ks_m1005, ks_m1004, ks_m1003, ks_m1002, ks_m1000, ks_200, ks_201, ks_300, ks_720, ks_9000, ks_10000, ks_250, ks_255, ks_256, ks_320, ks_660, ks_999, ks_1000, ks_9999, ks_12345, ne_2, ne_10, kc_0, kc_1, kf_0, kf_1, kf_2, kf_3, t_0, t_40, t_41, t_42, t_43, t_44, t_45, t_46, t_47, r_0_0, r_0_1, r_0_2, r_0_4, r_0_5, r_0_6, r_0_7, r_40_0, r_40_5, r_44_0, r_44_1, t_1, t_14, t_27, t_2, t_15, t_28, t_64, Nat.reduceEqDiff, ne_eq, not_false_eq_true, false_implies, true_implies, implies_true, Nat.reduceAdd, Nat.reduceLeDiff, Nat.reduceLT, Nat.reduceMul, or_true, true_or, if_true, if_false, not_true_eq_false, and_self, bF, Nat.reduceBEq, Bool.false_and, Bool.and_false, Bool.or_self, Bool.or_false, Bool.false_or, Bool.false_eq_true, Int.reduceAdd, Bool.and_self, Bool.true_and, Bool.and_true, beq_self_eq_true, List.drop, gL, sL, sL2, kilL, pad, slotsN, Value.category, List.length, List.head?, Option.map_some, Option.toList, List.nil_append, List.cons_append, lift_e, retOK, and_true, true_and, RtM_z, List.length_cons, List.length_nil, h1n, h1]
  exact hK
def P_X3_showHeir : Sp0T := fun as h K => match as with
  | [.ref c, .int x] => (tC (SHn 0) c).1 = 3 ∧ K none (pI (pI h c 0 (10 + x)) c 1 0)
  | _ => False
def S_X3_showHeir : SpT := lift P_X3_showHeir
def L_X3_showHeir_0 : List Item := (0, .aload_n 0, [], nS) :: (1, .bipush 10, [], nS) :: (3, .iload_n 1, [], nS) :: (4, .iadd, [], nS) :: (5, .putfield 9, [3, 0, 0], nS) :: (8, .aload_n 0, [], nS) :: (9, .iconst 0, [], nS) :: (10, .putfield 26, [3, 1, 0], nS) :: (13, .return_, [], nS) :: []
def L_X3_showHeir : List Item := L_X3_showHeir_0
theorem ok_X3_showHeir : okB cX3_showHeir L_X3_showHeir = true := by decide +kernel
theorem lk_X3_showHeir (l : Launch) : LKs l RX3 1 false L_X3_showHeir := ⟨trivial, trivial, trivial, trivial, ⟨_, _, _, rfl, ⟨(RX3, TX3, 3), rfl, by decide, gT_of (List.mem_of_getElem? (i := 177) (by decide +kernel)) rfl⟩, rfl, fun q => absurd rfl q⟩, trivial, trivial, ⟨_, _, _, rfl, ⟨(RX3, TX3, 3), rfl, by decide, gT_of (List.mem_of_getElem? (i := 180) (by decide +kernel)) rfl⟩, rfl, fun q => absurd rfl q⟩, trivial, trivial⟩
theorem b_X3_showHeir_0 : atL L_X3_showHeir 0 = L_X3_showHeir_0 := rfl
theorem yv_X3_showHeir : YV yX3_showHeir cX3_showHeir 2 none 1 3 := ⟨⟨gT_of (List.mem_of_getElem? (i := 277) (by decide +kernel)) rfl, gT_of (List.mem_of_getElem? (i := 31) (by decide +kernel)) rfl, ⟨by decide, by decide⟩, by decide +kernel, by decide⟩, gT_of (List.mem_of_getElem? (i := 275) (by decide +kernel)) rfl, gT_of (List.mem_of_getElem? (i := 276) (by decide +kernel)) rfl, rfl⟩
set_option maxRecDepth 100000 in
set_option maxHeartbeats 4000000 in
theorem c_X3_showHeir (l : Launch) : Ct l yX3_showHeir cX3_showHeir 2 none 1 0 0 S_X3_showHeir := by
  refine Ct0_mk L_X3_showHeir [] (by decide +kernel) (by decide) ok_X3_showHeir (lk_X3_showHeir l) ?_
  intro nn as h K hP
  match as, hP with
  | [.ref c, .int x], ⟨h1, hK⟩ =>
  refine ⟨by simp [slotsN, Value.category], fun J hJ => ?_⟩
  have h1n := tn (nn := nn) (by decide) h1
  refine hJ 0 _ _ _ _ ?_
  simp only [b_X3_showHeir_0, goF_s, jmp_n, jmp_c, L_X3_showHeir_0, g_nop, g_iconst, g_bipush, g_iload_n, g_aload_n, g_iadd, g_putfield, g_return_, pI1, pL1, pII, pLL, pLI, pR1, pIR, pIIR, pLIR, pRIR, pRR, pCP, pV1, pV2, pV3, vI, vL, vR, popN, eSt, br1, gtF, ptF, ldK, cV, cI, cS, swJ, capO, capO_z, if00, if10, rv_s, kb_6, kb_11, kb_13, kb_15, kb_17, kb_18, kb_19, kb_23, kb_24, kb_25, kb_26, kb_29, kb_31, kb_35, kb_37, kb_41, kb_43, kb_44, kb_61, kb_75, kb_104, kb_7, kb_8, kb_9, kb_10, kb_12, kb_16, kb_20, kb_21, kb_30, kb_32, kb_40, kb_48, kb_50, kb_57, kb_59, kb_60, kb_63, kb_70, kb_78, kb_81, kb_82, kb_84, kb_97, kb_99, kb_100, kb_101, kb_119, kb_120, kb_122, ki_m1, ki_0, ki_1, ki_2, ki_3, ki_4, ki_5, ki_6, ki_7, ki_8, ki_9, ki_10, ki_11, ki_12, ki_13, ki_14, ki_15, ki_16, ki_17, ki_18, ki_19, ki_20, ki_21, ki_22, ki_23, ki_24, ki_25, ki_26, ki_27, ki_28, ki_29, ki_30, ki_31, ki_32, ki_33, ki_34, ki_35, ki_36, ki_37, ki_38, ki_39, ki_40, ki_41, ki_42, ki_43, ki_44, ki_45, ki_46, ki_47, ki_48, ki_49, ki_50, ki_51, ki_52, ki_53, ki_54, ki_55, ki_56, ki_57, ki_58, ki_59, ki_60, ki_61, ki_62, ki_63, ks_m2000, ks_m1006, ks_m1005, ks_m1004, ks_m1003, ks_m1002, ks_m1000, ks_200, ks_201, ks_300, ks_720, ks_9000, ks_10000, ks_250, ks_255, ks_256, ks_320, ks_660, ks_999, ks_1000, ks_9999, ks_12345, ne_2, ne_10, kc_0, kc_1, kf_0, kf_1, kf_2, kf_3, t_0, t_40, t_41, t_42, t_43, t_44, t_45, t_46, t_47, r_0_0, r_0_1, r_0_2, r_0_4, r_0_5, r_0_6, r_0_7, r_40_0, r_40_5, r_44_0, r_44_1, t_1, t_14, t_27, t_2, t_15, t_28, t_64, Nat.reduceEqDiff, ne_eq, not_false_eq_true, false_implies, true_implies, implies_true, Nat.reduceAdd, Nat.reduceLeDiff, Nat.reduceLT, Nat.reduceMul, or_true, true_or, if_true, if_false, not_true_eq_false, and_self, bF, Nat.reduceBEq, Bool.false_and, Bool.and_false, Bool.or_self, Bool.or_false, Bool.false_or, Bool.false_eq_true, Int.reduceAdd, Bool.and_self, Bool.true_and, Bool.and_true, beq_self_eq_true, List.drop, gL, sL, sL2, kilL, pad, slotsN, Value.category, List.length, List.head?, Option.map_some, Option.toList, List.nil_append, List.cons_append, lift_e, retOK, and_true, true_and, RtM_z, List.length_cons, List.length_nil, h1n, h1]
  exact hK
def zrJ (c n : Nat) (h : AH) : AH := forN n (fun i h => pJ h c i 0) h
theorem lp40F {i : Nat} (hi : i < 40) : ((40 : Int32) ≤ nI i) = False := lpF (n := 40) hi (by omega)
theorem lp40T : ((40 : Int32) ≤ nI 40) = True := by decide
def P_X3_layRow : Sp0T := fun as h K => match as with
  | [.ref c, .int a, .int n] => ∃ s : Nat, s < 8 ∧ c = 48 + 2 * s ∧ K none (zrJ (49 + 2 * s) 40 (pI (pI h (48 + 2 * s) 0 a) (48 + 2 * s) 1 n))
  | _ => False
def S_X3_layRow : SpT := lift P_X3_layRow
def L_X3_layRow_31 : List Item := (31, .return_, [], nS) :: []
def L_X3_layRow_12 : List Item := (12, .iload_n 3, [], nS) :: (13, .bipush 40, [], nS) :: (15, .if_icmp .ge 16, [31], nS) :: (18, .aload_n 0, [], nS) :: (19, .getfield 15, [3, 2, 1], nS) :: (22, .iload_n 3, [], nS) :: (23, .lconst 0, [], nS) :: (24, .lastore, [], nS) :: (25, .iinc 3 1, [], nS) :: (28, .goto (-16), [12], nS) :: L_X3_layRow_31
def L_X3_layRow_0 : List Item := (0, .aload_n 0, [], nS) :: (1, .iload_n 1, [], nS) :: (2, .putfield 9, [3, 0, 0], nS) :: (5, .aload_n 0, [], nS) :: (6, .iload_n 2, [], nS) :: (7, .putfield 26, [3, 1, 0], nS) :: (10, .iconst 0, [], nS) :: (11, .istore_n 3, [], nS) :: (12, .nop, [], nS) :: L_X3_layRow_12
def L_X3_layRow : List Item := L_X3_layRow_0
theorem ok_X3_layRow : okB cX3_layRow L_X3_layRow = true := by decide +kernel
theorem lk_X3_layRow (l : Launch) : LKs l RX3 1 false L_X3_layRow := ⟨trivial, trivial, ⟨_, _, _, rfl, ⟨(RX3, TX3, 3), rfl, by decide, gT_of (List.mem_of_getElem? (i := 177) (by decide +kernel)) rfl⟩, rfl, fun q => absurd rfl q⟩, trivial, trivial, ⟨_, _, _, rfl, ⟨(RX3, TX3, 3), rfl, by decide, gT_of (List.mem_of_getElem? (i := 180) (by decide +kernel)) rfl⟩, rfl, fun q => absurd rfl q⟩, trivial, trivial, trivial, trivial, trivial, trivial, trivial, ⟨_, _, _, rfl, ⟨(RX3, TX3, 3), rfl, by decide, gT_of (List.mem_of_getElem? (i := 181) (by decide +kernel)) rfl⟩, rfl⟩, trivial, trivial, trivial, trivial, trivial, trivial, trivial⟩
theorem b_X3_layRow_0 : atL L_X3_layRow 0 = L_X3_layRow_0 := rfl
theorem b_X3_layRow_12 : atL L_X3_layRow 12 = L_X3_layRow_12 := rfl
theorem b_X3_layRow_31 : atL L_X3_layRow 31 = L_X3_layRow_31 := rfl
theorem a_X3_layRow_31 : afw L_X3_layRow [12] 31 = L_X3_layRow_31 := rfl
theorem a_X3_layRow_12 : afw L_X3_layRow [12] 12 = [] := rfl
theorem yv_X3_layRow : YV yX3_layRow cX3_layRow 4 none 2 3 := ⟨⟨gT_of (List.mem_of_getElem? (i := 233) (by decide +kernel)) rfl, gT_of (List.mem_of_getElem? (i := 31) (by decide +kernel)) rfl, ⟨by decide, by decide⟩, by decide +kernel, by decide⟩, gT_of (List.mem_of_getElem? (i := 231) (by decide +kernel)) rfl, gT_of (List.mem_of_getElem? (i := 232) (by decide +kernel)) rfl, rfl⟩
set_option maxRecDepth 100000 in
set_option maxHeartbeats 4000000 in
theorem c_X3_layRow (l : Launch) : Ct l yX3_layRow cX3_layRow 4 none 1 0 0 S_X3_layRow := by
  refine Ct0_mk L_X3_layRow [12] (by decide +kernel) (by decide) ok_X3_layRow (lk_X3_layRow l) ?_
  intro nn as h K hP
  match as, hP with
  | [.ref c, .int a, .int n], ⟨s, hs, hc, hK⟩ =>
  refine ⟨by simp [slotsN, Value.category], fun J hJ => ?_⟩
  subst hc
  refine hJ 0 _ _ _ _ ?_
  simp only [b_X3_layRow_0, goF_s, jmp_n, jmp_c, L_X3_layRow_0, L_X3_layRow_12, L_X3_layRow_31, a_X3_layRow_12, a_X3_layRow_31, g_nop, g_iconst, g_bipush, g_lconst, g_iload_n, g_aload_n, g_istore_n, g_iinc, g_ic_eq, g_ic_ne, g_ic_lt, g_ic_ge, g_ic_gt, g_ic_le, g_goto, g_getfield, g_putfield, g_lastore, g_return_, pI1, pL1, pII, pLL, pLI, pR1, pIR, pIIR, pLIR, pRIR, pRR, pCP, pV1, pV2, pV3, vI, vL, vR, popN, eSt, br1, gtF, ptF, ldK, cV, cI, cS, swJ, capO, capO_z, if00, if10, rv_s, kb_6, kb_11, kb_13, kb_15, kb_17, kb_18, kb_19, kb_23, kb_24, kb_25, kb_26, kb_29, kb_31, kb_35, kb_37, kb_41, kb_43, kb_44, kb_61, kb_75, kb_104, kb_7, kb_8, kb_9, kb_10, kb_12, kb_16, kb_20, kb_21, kb_30, kb_32, kb_40, kb_48, kb_50, kb_57, kb_59, kb_60, kb_63, kb_70, kb_78, kb_81, kb_82, kb_84, kb_97, kb_99, kb_100, kb_101, kb_119, kb_120, kb_122, ki_m1, ki_0, ki_1, ki_2, ki_3, ki_4, ki_5, ki_6, ki_7, ki_8, ki_9, ki_10, ki_11, ki_12, ki_13, ki_14, ki_15, ki_16, ki_17, ki_18, ki_19, ki_20, ki_21, ki_22, ki_23, ki_24, ki_25, ki_26, ki_27, ki_28, ki_29, ki_30, ki_31, ki_32, ki_33, ki_34, ki_35, ki_36, ki_37, ki_38, ki_39, ki_40, ki_41, ki_42, ki_43, ki_44, ki_45, ki_46, ki_47, ki_48, ki_49, ki_50, ki_51, ki_52, ki_53, ki_54, ki_55, ki_56, ki_57, ki_58, ki_59, ki_60, ki_61, ki_62, ki_63, ks_m2000, ks_m1006, ks_m1005, ks_m1004, ks_m1003, ks_m1002, ks_m1000, ks_200, ks_201, ks_300, ks_720, ks_9000, ks_10000, ks_250, ks_255, ks_256, ks_320, ks_660, ks_999, ks_1000, ks_9999, ks_12345, ne_2, ne_10, kc_0, kc_1, kf_0, kf_1, kf_2, kf_3, t_0, t_40, t_41, t_42, t_43, t_44, t_45, t_46, t_47, r_0_0, r_0_1, r_0_2, r_0_4, r_0_5, r_0_6, r_0_7, r_40_0, r_40_5, r_44_0, r_44_1, t_1, t_14, t_27, t_2, t_15, t_28, t_64, Nat.reduceEqDiff, ne_eq, not_false_eq_true, false_implies, true_implies, implies_true, Nat.reduceAdd, Nat.reduceLeDiff, Nat.reduceLT, Nat.reduceMul, or_true, true_or, if_true, if_false, not_true_eq_false, and_self, bF, Nat.reduceBEq, Bool.false_and, Bool.and_false, Bool.or_self, Bool.or_false, Bool.false_or, Bool.false_eq_true, Int.reduceAdd, Bool.and_self, Bool.true_and, Bool.and_true, beq_self_eq_true, List.drop, gL, sL, sL2, kilL, pad, slotsN, Value.category, List.length, List.head?, Option.map_some, Option.toList, List.nil_append, List.cons_append, lift_e, retOK, and_true, true_and, RtM_z, List.length_cons, List.length_nil, tSh hs]
  refine dn (P := fun i => J 12 (SHn nn) [.ref (48 + 2 * s), .int a, .int n, .int (nI i)] [] (zrJ (49 + 2 * s) i (pI (pI h (48 + 2 * s) 0 a) (48 + 2 * s) 1 n))) 40 ?_ (fun i hi ih => ?_)
  · refine hJ 12 _ _ _ _ ?_
    simp only [b_X3_layRow_12, goF_s, jmp_n, jmp_c, L_X3_layRow_0, L_X3_layRow_12, L_X3_layRow_31, a_X3_layRow_12, a_X3_layRow_31, g_nop, g_iconst, g_bipush, g_lconst, g_iload_n, g_aload_n, g_istore_n, g_iinc, g_ic_eq, g_ic_ne, g_ic_lt, g_ic_ge, g_ic_gt, g_ic_le, g_goto, g_getfield, g_putfield, g_lastore, g_return_, pI1, pL1, pII, pLL, pLI, pR1, pIR, pIIR, pLIR, pRIR, pRR, pCP, pV1, pV2, pV3, vI, vL, vR, popN, eSt, br1, gtF, ptF, ldK, cV, cI, cS, swJ, capO, capO_z, if00, if10, rv_s, kb_6, kb_11, kb_13, kb_15, kb_17, kb_18, kb_19, kb_23, kb_24, kb_25, kb_26, kb_29, kb_31, kb_35, kb_37, kb_41, kb_43, kb_44, kb_61, kb_75, kb_104, kb_7, kb_8, kb_9, kb_10, kb_12, kb_16, kb_20, kb_21, kb_30, kb_32, kb_40, kb_48, kb_50, kb_57, kb_59, kb_60, kb_63, kb_70, kb_78, kb_81, kb_82, kb_84, kb_97, kb_99, kb_100, kb_101, kb_119, kb_120, kb_122, ki_m1, ki_0, ki_1, ki_2, ki_3, ki_4, ki_5, ki_6, ki_7, ki_8, ki_9, ki_10, ki_11, ki_12, ki_13, ki_14, ki_15, ki_16, ki_17, ki_18, ki_19, ki_20, ki_21, ki_22, ki_23, ki_24, ki_25, ki_26, ki_27, ki_28, ki_29, ki_30, ki_31, ki_32, ki_33, ki_34, ki_35, ki_36, ki_37, ki_38, ki_39, ki_40, ki_41, ki_42, ki_43, ki_44, ki_45, ki_46, ki_47, ki_48, ki_49, ki_50, ki_51, ki_52, ki_53, ki_54, ki_55, ki_56, ki_57, ki_58, ki_59, ki_60, ki_61, ki_62, ki_63, ks_m2000, ks_m1006, ks_m1005, ks_m1004, ks_m1003, ks_m1002, ks_m1000, ks_200, ks_201, ks_300, ks_720, ks_9000, ks_10000, ks_250, ks_255, ks_256, ks_320, ks_660, ks_999, ks_1000, ks_9999, ks_12345, ne_2, ne_10, kc_0, kc_1, kf_0, kf_1, kf_2, kf_3, t_0, t_40, t_41, t_42, t_43, t_44, t_45, t_46, t_47, r_0_0, r_0_1, r_0_2, r_0_4, r_0_5, r_0_6, r_0_7, r_40_0, r_40_5, r_44_0, r_44_1, t_1, t_14, t_27, t_2, t_15, t_28, t_64, Nat.reduceEqDiff, ne_eq, not_false_eq_true, false_implies, true_implies, implies_true, Nat.reduceAdd, Nat.reduceLeDiff, Nat.reduceLT, Nat.reduceMul, or_true, true_or, if_true, if_false, not_true_eq_false, and_self, bF, Nat.reduceBEq, Bool.false_and, Bool.and_false, Bool.or_self, Bool.or_false, Bool.false_or, Bool.false_eq_true, Int.reduceAdd, Bool.and_self, Bool.true_and, Bool.and_true, beq_self_eq_true, List.drop, gL, sL, sL2, kilL, pad, slotsN, Value.category, List.length, List.head?, Option.map_some, Option.toList, List.nil_append, List.cons_append, lift_e, retOK, and_true, true_and, RtM_z, List.length_cons, List.length_nil, lp40T]
    exact hK
  · refine hJ 12 _ _ _ _ ?_
    simp only [b_X3_layRow_12, goF_s, jmp_n, jmp_c, L_X3_layRow_0, L_X3_layRow_12, L_X3_layRow_31, a_X3_layRow_12, a_X3_layRow_31, g_nop, g_iconst, g_bipush, g_lconst, g_iload_n, g_aload_n, g_istore_n, g_iinc, g_ic_eq, g_ic_ne, g_ic_lt, g_ic_ge, g_ic_gt, g_ic_le, g_goto, g_getfield, g_putfield, g_lastore, g_return_, pI1, pL1, pII, pLL, pLI, pR1, pIR, pIIR, pLIR, pRIR, pRR, pCP, pV1, pV2, pV3, vI, vL, vR, popN, eSt, br1, gtF, ptF, ldK, cV, cI, cS, swJ, capO, capO_z, if00, if10, rv_s, kb_6, kb_11, kb_13, kb_15, kb_17, kb_18, kb_19, kb_23, kb_24, kb_25, kb_26, kb_29, kb_31, kb_35, kb_37, kb_41, kb_43, kb_44, kb_61, kb_75, kb_104, kb_7, kb_8, kb_9, kb_10, kb_12, kb_16, kb_20, kb_21, kb_30, kb_32, kb_40, kb_48, kb_50, kb_57, kb_59, kb_60, kb_63, kb_70, kb_78, kb_81, kb_82, kb_84, kb_97, kb_99, kb_100, kb_101, kb_119, kb_120, kb_122, ki_m1, ki_0, ki_1, ki_2, ki_3, ki_4, ki_5, ki_6, ki_7, ki_8, ki_9, ki_10, ki_11, ki_12, ki_13, ki_14, ki_15, ki_16, ki_17, ki_18, ki_19, ki_20, ki_21, ki_22, ki_23, ki_24, ki_25, ki_26, ki_27, ki_28, ki_29, ki_30, ki_31, ki_32, ki_33, ki_34, ki_35, ki_36, ki_37, ki_38, ki_39, ki_40, ki_41, ki_42, ki_43, ki_44, ki_45, ki_46, ki_47, ki_48, ki_49, ki_50, ki_51, ki_52, ki_53, ki_54, ki_55, ki_56, ki_57, ki_58, ki_59, ki_60, ki_61, ki_62, ki_63, ks_m2000, ks_m1006, ks_m1005, ks_m1004, ks_m1003, ks_m1002, ks_m1000, ks_200, ks_201, ks_300, ks_720, ks_9000, ks_10000, ks_250, ks_255, ks_256, ks_320, ks_660, ks_999, ks_1000, ks_9999, ks_12345, ne_2, ne_10, kc_0, kc_1, kf_0, kf_1, kf_2, kf_3, t_0, t_40, t_41, t_42, t_43, t_44, t_45, t_46, t_47, r_0_0, r_0_1, r_0_2, r_0_4, r_0_5, r_0_6, r_0_7, r_40_0, r_40_5, r_44_0, r_44_1, t_1, t_14, t_27, t_2, t_15, t_28, t_64, Nat.reduceEqDiff, ne_eq, not_false_eq_true, false_implies, true_implies, implies_true, Nat.reduceAdd, Nat.reduceLeDiff, Nat.reduceLT, Nat.reduceMul, or_true, true_or, if_true, if_false, not_true_eq_false, and_self, bF, Nat.reduceBEq, Bool.false_and, Bool.and_false, Bool.or_self, Bool.or_false, Bool.false_or, Bool.false_eq_true, Int.reduceAdd, Bool.and_self, Bool.true_and, Bool.and_true, beq_self_eq_true, List.drop, gL, sL, sL2, kilL, pad, slotsN, Value.category, List.length, List.head?, Option.map_some, Option.toList, List.nil_append, List.cons_append, lift_e, retOK, and_true, true_and, RtM_z, List.length_cons, List.length_nil, lp40F hi, tSh hs, rSl hs, tSl hs, nI_clamp (show i < 2 ^ 31 by omega), vpN hi (show 40 < 2147483648 by omega), nI_1]
    exact ih
def keptE (k : Int32) (v : Int64) : Int64 := if k = 0 then v.toInt32.toInt8.toInt32.toInt64 else if k = 1 then v.toInt32.toInt16.toInt32.toInt64 else if k = 2 then v.toInt32.toInt64 else if k = 4 then (if v = 0 then 0 else 1) else v
def P_X3_put : Sp0T := fun as h K => match as with
  | [.ref c, .int x, .long v] => ∃ s : Nat, s < 8 ∧ c = 48 + 2 * s ∧ ∃ j : Nat, j < 40 ∧ x = nI j ∧ K none (pJ h (49 + 2 * s) j (keptE (gI h (48 + 2 * s) 0) v))
  | _ => False
def S_X3_put : SpT := lift P_X3_put
def L_X3_put_105 : List Item := (105, .return_, [], nS) :: []
def L_X3_put_98 : List Item := (98, .aload_n 0, [], nS) :: (99, .getfield 15, [3, 2, 1], nS) :: (102, .iload_n 1, [], nS) :: (103, .lload_n 2, [], nS) :: (104, .lastore, [], nS) :: L_X3_put_105
def L_X3_put_94 : List Item := (94, .lastore, [], nS) :: (95, .goto 10, [105], nS) :: L_X3_put_98
def L_X3_put_93 : List Item := (93, .lconst 0, [], nS) :: L_X3_put_94
def L_X3_put_78 : List Item := (78, .aload_n 0, [], nS) :: (79, .getfield 15, [3, 2, 1], nS) :: (82, .iload_n 1, [], nS) :: (83, .lload_n 2, [], nS) :: (84, .lconst 0, [], nS) :: (85, .lcmp, [], nS) :: (86, .ifCond .eq 7, [93], nS) :: (89, .lconst 1, [], nS) :: (90, .goto 4, [94], nS) :: L_X3_put_93
def L_X3_put_66 : List Item := (66, .aload_n 0, [], nS) :: (67, .getfield 15, [3, 2, 1], nS) :: (70, .iload_n 1, [], nS) :: (71, .lload_n 2, [], nS) :: (72, .l2i, [], nS) :: (73, .i2l, [], nS) :: (74, .lastore, [], nS) :: (75, .goto 30, [105], nS) :: L_X3_put_78
def L_X3_put_53 : List Item := (53, .aload_n 0, [], nS) :: (54, .getfield 15, [3, 2, 1], nS) :: (57, .iload_n 1, [], nS) :: (58, .lload_n 2, [], nS) :: (59, .l2i, [], nS) :: (60, .i2s, [], nS) :: (61, .i2l, [], nS) :: (62, .lastore, [], nS) :: (63, .goto 42, [105], nS) :: L_X3_put_66
def L_X3_put_40 : List Item := (40, .aload_n 0, [], nS) :: (41, .getfield 15, [3, 2, 1], nS) :: (44, .iload_n 1, [], nS) :: (45, .lload_n 2, [], nS) :: (46, .l2i, [], nS) :: (47, .i2b, [], nS) :: (48, .i2l, [], nS) :: (49, .lastore, [], nS) :: (50, .goto 55, [105], nS) :: L_X3_put_53
def L_X3_put_0 : List Item := (0, .aload_n 0, [], nS) :: (1, .getfield 9, [3, 0, 0], nS) :: (4, .tableswitch 94 0 4 #[36, 49, 62, 94, 74], [40, 53, 66, 98, 78, 98], nS) :: L_X3_put_40
def L_X3_put : List Item := L_X3_put_0
theorem ok_X3_put : okB cX3_put L_X3_put = true := by decide +kernel
theorem lk_X3_put (l : Launch) : LKs l RX3 1 false L_X3_put := ⟨trivial, ⟨_, _, _, rfl, ⟨(RX3, TX3, 3), rfl, by decide, gT_of (List.mem_of_getElem? (i := 177) (by decide +kernel)) rfl⟩, rfl⟩, trivial, trivial, ⟨_, _, _, rfl, ⟨(RX3, TX3, 3), rfl, by decide, gT_of (List.mem_of_getElem? (i := 181) (by decide +kernel)) rfl⟩, rfl⟩, trivial, trivial, trivial, trivial, trivial, trivial, trivial, trivial, ⟨_, _, _, rfl, ⟨(RX3, TX3, 3), rfl, by decide, gT_of (List.mem_of_getElem? (i := 181) (by decide +kernel)) rfl⟩, rfl⟩, trivial, trivial, trivial, trivial, trivial, trivial, trivial, trivial, ⟨_, _, _, rfl, ⟨(RX3, TX3, 3), rfl, by decide, gT_of (List.mem_of_getElem? (i := 181) (by decide +kernel)) rfl⟩, rfl⟩, trivial, trivial, trivial, trivial, trivial, trivial, trivial, ⟨_, _, _, rfl, ⟨(RX3, TX3, 3), rfl, by decide, gT_of (List.mem_of_getElem? (i := 181) (by decide +kernel)) rfl⟩, rfl⟩, trivial, trivial, trivial, trivial, trivial, trivial, trivial, trivial, trivial, trivial, trivial, ⟨_, _, _, rfl, ⟨(RX3, TX3, 3), rfl, by decide, gT_of (List.mem_of_getElem? (i := 181) (by decide +kernel)) rfl⟩, rfl⟩, trivial, trivial, trivial, trivial, trivial⟩
theorem b_X3_put_0 : atL L_X3_put 0 = L_X3_put_0 := rfl
theorem b_X3_put_40 : atL L_X3_put 40 = L_X3_put_40 := rfl
theorem b_X3_put_53 : atL L_X3_put 53 = L_X3_put_53 := rfl
theorem b_X3_put_66 : atL L_X3_put 66 = L_X3_put_66 := rfl
theorem b_X3_put_78 : atL L_X3_put 78 = L_X3_put_78 := rfl
theorem b_X3_put_93 : atL L_X3_put 93 = L_X3_put_93 := rfl
theorem b_X3_put_94 : atL L_X3_put 94 = L_X3_put_94 := rfl
theorem b_X3_put_98 : atL L_X3_put 98 = L_X3_put_98 := rfl
theorem b_X3_put_105 : atL L_X3_put 105 = L_X3_put_105 := rfl
theorem a_X3_put_40 : afw L_X3_put [] 40 = L_X3_put_40 := rfl
theorem a_X3_put_53 : afw L_X3_put [] 53 = L_X3_put_53 := rfl
theorem a_X3_put_66 : afw L_X3_put [] 66 = L_X3_put_66 := rfl
theorem a_X3_put_78 : afw L_X3_put [] 78 = L_X3_put_78 := rfl
theorem a_X3_put_93 : afw L_X3_put [] 93 = L_X3_put_93 := rfl
theorem a_X3_put_94 : afw L_X3_put [] 94 = L_X3_put_94 := rfl
theorem a_X3_put_98 : afw L_X3_put [] 98 = L_X3_put_98 := rfl
theorem a_X3_put_105 : afw L_X3_put [] 105 = L_X3_put_105 := rfl
theorem yv_X3_put : YV yX3_put cX3_put 4 none 2 3 := ⟨⟨gT_of (List.mem_of_getElem? (i := 253) (by decide +kernel)) rfl, gT_of (List.mem_of_getElem? (i := 31) (by decide +kernel)) rfl, ⟨by decide, by decide⟩, by decide +kernel, by decide⟩, gT_of (List.mem_of_getElem? (i := 251) (by decide +kernel)) rfl, gT_of (List.mem_of_getElem? (i := 252) (by decide +kernel)) rfl, rfl⟩
set_option maxRecDepth 100000 in
set_option maxHeartbeats 4000000 in
theorem c_X3_put (l : Launch) : Ct l yX3_put cX3_put 4 none 1 0 0 S_X3_put := by
  refine Ct0_mk L_X3_put [] (by decide +kernel) (by decide) ok_X3_put (lk_X3_put l) ?_
  intro nn as h K hP
  match as, hP with
  | [.ref c, .int x, .long v], ⟨s, hs, hc, j, hj, hx, hK⟩ =>
  refine ⟨by simp [slotsN, Value.category], fun J hJ => ?_⟩
  subst hc hx
  refine hJ 0 _ _ _ _ ?_
  simp only [b_X3_put_0, goF_s, jmp_n, jmp_c, L_X3_put_0, L_X3_put_40, L_X3_put_53, L_X3_put_66, L_X3_put_78, L_X3_put_93, L_X3_put_94, L_X3_put_98, L_X3_put_105, a_X3_put_40, a_X3_put_53, a_X3_put_66, a_X3_put_78, a_X3_put_93, a_X3_put_94, a_X3_put_98, a_X3_put_105, g_nop, g_lconst, g_iload_n, g_lload_n, g_aload_n, g_lcmp, g_i2l, g_l2i, g_i2b, g_i2s, g_if_eq, g_if_ne, g_if_lt, g_if_ge, g_if_gt, g_if_le, g_goto, g_tableswitch, g_getfield, g_lastore, g_return_, pI1, pL1, pII, pLL, pLI, pR1, pIR, pIIR, pLIR, pRIR, pRR, pCP, pV1, pV2, pV3, vI, vL, vR, popN, eSt, br1, gtF, ptF, ldK, cV, cI, cS, swJ, capO, capO_z, if00, if10, rv_s, kb_6, kb_11, kb_13, kb_15, kb_17, kb_18, kb_19, kb_23, kb_24, kb_25, kb_26, kb_29, kb_31, kb_35, kb_37, kb_41, kb_43, kb_44, kb_61, kb_75, kb_104, kb_7, kb_8, kb_9, kb_10, kb_12, kb_16, kb_20, kb_21, kb_30, kb_32, kb_40, kb_48, kb_50, kb_57, kb_59, kb_60, kb_63, kb_70, kb_78, kb_81, kb_82, kb_84, kb_97, kb_99, kb_100, kb_101, kb_119, kb_120, kb_122, ki_m1, ki_0, ki_1, ki_2, ki_3, ki_4, ki_5, ki_6, ki_7, ki_8, ki_9, ki_10, ki_11, ki_12, ki_13, ki_14, ki_15, ki_16, ki_17, ki_18, ki_19, ki_20, ki_21, ki_22, ki_23, ki_24, ki_25, ki_26, ki_27, ki_28, ki_29, ki_30, ki_31, ki_32, ki_33, ki_34, ki_35, ki_36, ki_37, ki_38, ki_39, ki_40, ki_41, ki_42, ki_43, ki_44, ki_45, ki_46, ki_47, ki_48, ki_49, ki_50, ki_51, ki_52, ki_53, ki_54, ki_55, ki_56, ki_57, ki_58, ki_59, ki_60, ki_61, ki_62, ki_63, ks_m2000, ks_m1006, ks_m1005, ks_m1004, ks_m1003, ks_m1002, ks_m1000, ks_200, ks_201, ks_300, ks_720, ks_9000, ks_10000, ks_250, ks_255, ks_256, ks_320, ks_660, ks_999, ks_1000, ks_9999, ks_12345, ne_2, ne_10, kc_0, kc_1, kf_0, kf_1, kf_2, kf_3, t_0, t_40, t_41, t_42, t_43, t_44, t_45, t_46, t_47, r_0_0, r_0_1, r_0_2, r_0_4, r_0_5, r_0_6, r_0_7, r_40_0, r_40_5, r_44_0, r_44_1, t_1, t_14, t_27, t_2, t_15, t_28, t_64, Nat.reduceEqDiff, ne_eq, not_false_eq_true, false_implies, true_implies, implies_true, Nat.reduceAdd, Nat.reduceLeDiff, Nat.reduceLT, Nat.reduceMul, or_true, true_or, if_true, if_false, not_true_eq_false, and_self, bF, Nat.reduceBEq, Bool.false_and, Bool.and_false, Bool.or_self, Bool.or_false, Bool.false_or, Bool.false_eq_true, Int.reduceAdd, Bool.and_self, Bool.true_and, Bool.and_true, beq_self_eq_true, List.drop, gL, sL, sL2, kilL, pad, slotsN, Value.category, List.length, List.head?, Option.map_some, Option.toList, List.nil_append, List.cons_append, lift_e, retOK, and_true, true_and, RtM_z, List.length_cons, List.length_nil, tSh hs, rSl hs, tSl hs, nI_clamp (show j < 2 ^ 31 by omega), vpN hj (show 40 < 2147483648 by omega), lc_eq]
  unfold keptE at hK
  grind