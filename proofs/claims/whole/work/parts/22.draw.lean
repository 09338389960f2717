def P_X0_draw : Sp0T := fun as h K => match as with
  | [.ref b, .int n] => isE b ∧ K (some (.int (drawI (nextS (gI h b 3)) n))) (pI h b 3 (nextS (gI h b 3)))
  | _ => False
def S_X0_draw : SpT := lift P_X0_draw
def L_X0_draw_32 : List Item := (32, .ireturn, [], nS) :: []
def L_X0_draw_31 : List Item := (31, .iconst 0, [], nS) :: L_X0_draw_32
def L_X0_draw_0 : List Item := (0, .aload_n 0, [], nS) :: (1, .aload_n 0, [], nS) :: (2, .getfield 15, [0, 3, 0], nS) :: (5, .ldc 122, [0, 1], nS) :: (7, .imul, [], nS) :: (8, .sipush 12345, [], nS) :: (11, .iadd, [], nS) :: (12, .putfield 15, [0, 3, 0], nS) :: (15, .iload_n 1, [], nS) :: (16, .ifCond .le 15, [31], nS) :: (19, .aload_n 0, [], nS) :: (20, .getfield 15, [0, 3, 0], nS) :: (23, .bipush 16, [], nS) :: (25, .iushr, [], nS) :: (26, .iload_n 1, [], nS) :: (27, .irem, [], nS) :: (28, .goto 4, [32], nS) :: L_X0_draw_31
def L_X0_draw : List Item := L_X0_draw_0
theorem ok_X0_draw : okB cX0_draw L_X0_draw = true := by decide +kernel
theorem lk_X0_draw (l : Launch) : LKs l RX0 1 false L_X0_draw := ⟨trivial, trivial, ⟨_, _, _, rfl, ⟨(RX0, TX0, 7), rfl, by decide, gT_of (List.mem_of_getElem? (i := 147) (by decide +kernel)) rfl⟩, rfl⟩, Or.inl ⟨_, rfl, gT_of (List.mem_of_getElem? (i := 886) (by decide +kernel)) rfl⟩, trivial, trivial, trivial, ⟨_, _, _, rfl, ⟨(RX0, TX0, 7), rfl, by decide, gT_of (List.mem_of_getElem? (i := 147) (by decide +kernel)) rfl⟩, rfl, fun q => absurd rfl q⟩, trivial, trivial, trivial, ⟨_, _, _, rfl, ⟨(RX0, TX0, 7), rfl, by decide, gT_of (List.mem_of_getElem? (i := 147) (by decide +kernel)) rfl⟩, rfl⟩, trivial, trivial, trivial, trivial, trivial, trivial, trivial, trivial⟩
theorem b_X0_draw_0 : atL L_X0_draw 0 = L_X0_draw_0 := rfl
theorem b_X0_draw_31 : atL L_X0_draw 31 = L_X0_draw_31 := rfl
theorem b_X0_draw_32 : atL L_X0_draw 32 = L_X0_draw_32 := rfl
theorem a_X0_draw_31 : afw L_X0_draw [] 31 = L_X0_draw_31 := rfl
theorem a_X0_draw_32 : afw L_X0_draw [] 32 = L_X0_draw_32 := rfl
theorem yv_X0_draw : YV yX0_draw cX0_draw 2 (some .int) 1 0 := ⟨⟨gT_of (List.mem_of_getElem? (i := 885) (by decide +kernel)) rfl, gT_of (List.mem_of_getElem? (i := 69) (by decide +kernel)) rfl, ⟨by decide, by decide⟩, by decide +kernel, by decide⟩, gT_of (List.mem_of_getElem? (i := 884) (by decide +kernel)) rfl, gT_of (List.mem_of_getElem? (i := 24) (by decide +kernel)) rfl, rfl⟩
set_option maxRecDepth 100000 in
set_option maxHeartbeats 4000000 in
theorem c_X0_draw (l : Launch) : Ct l yX0_draw cX0_draw 2 (some .int) 1 0 0 S_X0_draw := by
  refine Ct0_mk L_X0_draw [] (by decide +kernel) (by decide) ok_X0_draw (lk_X0_draw l) ?_
  intro as h K hP
  match as, hP with
  | [.ref b, .int n], ⟨hb, hK⟩ =>
  refine ⟨by simp [slotsN, Value.category], fun J hJ => ?_⟩
  refine hJ 0 _ _ _ _ ?_
  simp only [b_X0_draw_0, goF_s, jmp_n, jmp_c, L_X0_draw_0, L_X0_draw_31, L_X0_draw_32, a_X0_draw_31, a_X0_draw_32, g_nop, g_iconst, g_bipush, g_sipush, g_iload_n, g_aload_n, g_iadd, g_imul, g_iushr, g_irem, g_if_eq, g_if_ne, g_if_lt, g_if_ge, g_if_gt, g_if_le, g_goto, g_getfield, g_putfield, g_ldc, g_ireturn, pI1, pL1, pII, pLL, pLI, pR1, pIR, pIIR, pLIR, pRIR, pRR, pCP, pV1, pV2, vI, vL, vR, popN, eSt, br1, gtF, ptF, ldK, cV, cI, cS, swJ, capO, capO_z, if00, if10, rv_s, kb_6, kb_7, kb_8, kb_9, kb_10, kb_12, kb_16, kb_20, kb_21, kb_30, kb_32, kb_40, kb_48, kb_50, kb_57, kb_59, kb_60, kb_63, kb_70, kb_78, kb_81, kb_82, kb_84, kb_97, kb_99, kb_100, kb_101, kb_119, kb_120, kb_122, ki_m1, ki_0, ki_1, ki_2, ki_3, ki_4, ki_5, ki_6, ki_7, ki_8, ki_9, ki_10, ki_11, ki_12, ki_13, ki_14, ki_15, ki_16, ki_17, ki_18, ki_19, ki_20, ki_21, ki_22, ki_23, ki_24, ki_25, ki_26, ki_27, ki_28, ki_29, ki_30, ki_31, ki_32, ki_33, ki_34, ki_35, ki_36, ki_37, ki_38, ki_39, ki_40, ki_41, ki_42, ki_43, ki_44, ki_45, ki_46, ki_47, ki_48, ki_49, ki_50, ki_51, ki_52, ki_53, ki_54, ki_55, ki_56, ki_57, ki_58, ki_59, ki_60, ki_61, ki_62, ki_63, ks_m2000, ks_m1006, ks_m1005, ks_m1004, ks_m1003, ks_m1002, ks_m1000, ks_200, ks_250, ks_255, ks_256, ks_320, ks_660, ks_999, ks_1000, ks_9999, ks_12345, ne_2, ne_10, kc_0, kc_1, kf_0, kf_1, kf_2, kf_3, t_0, t_40, t_41, t_42, t_43, t_44, t_45, t_46, t_47, t_64, t_65, t_66, t_67, t_68, t_69, t_70, t_71, t_72, t_73, t_74, t_75, t_76, t_77, t_78, t_79, t_80, t_81, t_82, r_0_0, r_0_1, r_0_2, r_0_4, r_0_5, r_0_6, r_0_7, r_40_0, r_40_5, r_44_0, r_44_1, r_64_0, r_64_1, r_64_3, r_64_4, r_64_5, r_64_6, r_64_7, r_64_8, r_64_9, r_64_12, r_64_17, r_64_18, r_64_19, r_64_20, r_64_22, r_64_23, r_64_24, r_64_25, t_1, t_14, t_27, t_2, t_15, t_28, Nat.reduceEqDiff, ne_eq, not_false_eq_true, false_implies, true_implies, implies_true, Nat.reduceAdd, Nat.reduceLeDiff, Nat.reduceLT, Nat.reduceMul, or_true, true_or, if_true, if_false, not_true_eq_false, and_self, bF, Nat.reduceBEq, Bool.false_and, Bool.and_false, Bool.or_self, Bool.or_false, Bool.false_or, Bool.false_eq_true, Int.reduceAdd, Bool.and_self, Bool.true_and, Bool.and_true, beq_self_eq_true, List.drop, gL, sL, sL2, kilL, pad, slotsN, Value.category, List.length, List.head?, Option.map_some, Option.toList, List.nil_append, List.cons_append, lift, lift_e, retOK, and_true, true_and, RtM_z, List.length_cons, List.length_nil, tE hb, gI_pI, and_self, if_true]
  intro x hx
  rw [kn_1103515245] at hx
  subst hx
  unfold drawI nextS at hK
  refine ⟨fun q => ?_, fun q => ?_⟩
  · rw [if_neg (Int32.not_lt.mpr q)] at hK
    exact hK
  · have q' := Int32.not_le.mp q
    rw [if_pos q'] at hK
    exact ⟨fun e => by rw [e] at q'; exact i_lt_irr _ q', hK⟩
