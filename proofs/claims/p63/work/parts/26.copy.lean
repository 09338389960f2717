variable {nn : Nat}
/-- the next seed; opaque to the kernel, as the factor is too big to be unfolded -/
theorem nextQ_ex : ∃ f : Int32 → Int32, ∀ s, f s = s * 1103515245 + 12345 := ⟨fun s => s * 1103515245 + 12345, fun _ => rfl⟩
noncomputable def nextQ : Int32 → Int32 := Classical.choose nextQ_ex
theorem nextQ_eq (s : Int32) : nextQ s = s * 1103515245 + 12345 := Classical.choose_spec nextQ_ex s
def P_X0_draw : Sp0T := fun as h K => match as with
  | [.ref b, .int n] => isE b ∧ ∀ s d, s = nextQ (gI h b 3) → d = drawI s n → K (some (.int d)) (pI h b 3 s)
  | _ => False
def S_X0_draw : SpT := lift P_X0_draw
def L_X0_draw_32 : List Item := (32, .ireturn, [], nS) :: []
def L_X0_draw_31 : List Item := (31, .iconst 0, [], nS) :: L_X0_draw_32
def L_X0_draw_0 : List Item := (0, .aload_n 0, [], nS) :: (1, .aload_n 0, [], nS) :: (2, .getfield 15, [0, 3, 0], nS) :: (5, .ldc 122, [0, 1], nS) :: (7, .imul, [], nS) :: (8, .sipush 12345, [], nS) :: (11, .iadd, [], nS) :: (12, .putfield 15, [0, 3, 0], nS) :: (15, .iload_n 1, [], nS) :: (16, .ifCond .le 15, [31], nS) :: (19, .aload_n 0, [], nS) :: (20, .getfield 15, [0, 3, 0], nS) :: (23, .bipush 16, [], nS) :: (25, .iushr, [], nS) :: (26, .iload_n 1, [], nS) :: (27, .irem, [], nS) :: (28, .goto 4, [32], nS) :: L_X0_draw_31
def L_X0_draw : List Item := L_X0_draw_0
theorem ok_X0_draw : okB cX0_draw L_X0_draw = true := by decide +kernel
theorem lk_X0_draw (l : Launch) : LKs l RX0 1 false L_X0_draw := ⟨trivial, trivial, ⟨_, _, _, rfl, ⟨(RX0, TX0, 7), rfl, by decide, gT_of (List.mem_of_getElem? (i := 104) (by decide +kernel)) rfl⟩, rfl⟩, Or.inl ⟨_, rfl, gT_of (List.mem_of_getElem? (i := 700) (by decide +kernel)) rfl⟩, trivial, trivial, trivial, ⟨_, _, _, rfl, ⟨(RX0, TX0, 7), rfl, by decide, gT_of (List.mem_of_getElem? (i := 104) (by decide +kernel)) rfl⟩, rfl, fun q => absurd rfl q⟩, trivial, trivial, trivial, ⟨_, _, _, rfl, ⟨(RX0, TX0, 7), rfl, by decide, gT_of (List.mem_of_getElem? (i := 104) (by decide +kernel)) rfl⟩, rfl⟩, trivial, trivial, trivial, trivial, trivial, trivial, trivial, trivial⟩
theorem b_X0_draw_0 : atL L_X0_draw 0 = L_X0_draw_0 := rfl
theorem b_X0_draw_31 : atL L_X0_draw 31 = L_X0_draw_31 := rfl
theorem b_X0_draw_32 : atL L_X0_draw 32 = L_X0_draw_32 := rfl
theorem a_X0_draw_31 : afw L_X0_draw [] 31 = L_X0_draw_31 := rfl
theorem a_X0_draw_32 : afw L_X0_draw [] 32 = L_X0_draw_32 := rfl
theorem yv_X0_draw : YV yX0_draw cX0_draw 2 (some .int) 1 0 := ⟨⟨gT_of (List.mem_of_getElem? (i := 699) (by decide +kernel)) rfl, gT_of (List.mem_of_getElem? (i := 27) (by decide +kernel)) rfl, ⟨by decide, by decide⟩, by decide +kernel, by decide⟩, gT_of (List.mem_of_getElem? (i := 698) (by decide +kernel)) rfl, gT_of (List.mem_of_getElem? (i := 23) (by decide +kernel)) rfl, rfl⟩
set_option maxRecDepth 100000 in
set_option maxHeartbeats 4000000 in
theorem c_X0_draw (l : Launch) : Ct l yX0_draw cX0_draw 2 (some .int) 1 0 0 S_X0_draw := by
  refine Ct0_mk L_X0_draw [] (by decide +kernel) (by decide) ok_X0_draw (lk_X0_draw l) ?_
  intro nn as h K hP
  match as, hP with
  | [.ref b, .int n], ⟨hb, hK⟩ =>
  refine ⟨by simp [slotsN, Value.category], fun J hJ => ?_⟩
  refine hJ 0 _ _ _ _ ?_
  simp only [b_X0_draw_0, goF_s, jmp_n, jmp_c, L_X0_draw_0, L_X0_draw_31, L_X0_draw_32, a_X0_draw_31, a_X0_draw_32, g_nop, g_iconst, g_bipush, g_sipush, g_iload_n, g_aload_n, g_iadd, g_imul, g_iushr, g_irem, g_if_eq, g_if_ne, g_if_lt, g_if_ge, g_if_gt, g_if_le, g_goto, g_getfield, g_putfield, g_ldc, g_ireturn, pI1, pL1, pII, pLL, pLI, pR1, pIR, pIIR, pLIR, pRIR, pRR, pCP, pV1, pV2, pV3, vI, vL, vR, popN, eSt, br1, gtF, ptF, ldK, cV, cI, cS, swJ, capO, capO_z, if00, if10, rv_s, kb_6, kb_11, kb_13, kb_15, kb_17, kb_18, kb_19, kb_23, kb_24, kb_25, kb_26, kb_29, kb_31, kb_35, kb_37, kb_41, kb_43, kb_44, kb_61, kb_75, kb_104, kb_7, kb_8, kb_9, kb_10, kb_12, kb_16, kb_20, kb_21, kb_30, kb_32, kb_40, kb_48, kb_50, kb_57, kb_59, kb_60, kb_63, kb_70, kb_78, kb_81, kb_82, kb_84, kb_97, kb_99, kb_100, kb_101, kb_119, kb_120, kb_122, ki_m1, ki_0, ki_1, ki_2, ki_3, ki_4, ki_5, ki_6, ki_7, ki_8, ki_9, ki_10, ki_11, ki_12, ki_13, ki_14, ki_15, ki_16, ki_17, ki_18, ki_19, ki_20, ki_21, ki_22, ki_23, ki_24, ki_25, ki_26, ki_27, ki_28, ki_29, ki_30, ki_31, ki_32, ki_33, ki_34, ki_35, ki_36, ki_37, ki_38, ki_39, ki_40, ki_41, ki_42, ki_43, ki_44, ki_45, ki_46, ki_47, ki_48, ki_49, ki_50, ki_51, ki_52, ki_53, ki_54, ki_55, ki_56, ki_57, ki_58, ki_59, ki_60, ki_61, ki_62, ki_63, ks_m2000, ks_m1006, ks_m1005, ks_m1004, ks_m1003, ks_m1002, ks_m1000, ks_200, ks_201, ks_300, ks_720, ks_9000, ks_10000, ks_250, ks_255, ks_256, ks_320, ks_660, ks_999, ks_1000, ks_9999, ks_12345, ne_2, ne_10, kc_0, kc_1, kf_0, kf_1, kf_2, kf_3, t_0, t_40, t_41, t_42, t_43, t_44, t_45, t_46, t_47, r_0_0, r_0_1, r_0_2, r_0_4, r_0_5, r_0_6, r_0_7, r_40_0, r_40_5, r_44_0, r_44_1, t_1, t_14, t_27, t_2, t_15, t_28, t_64, Nat.reduceEqDiff, ne_eq, not_false_eq_true, false_implies, true_implies, implies_true, Nat.reduceAdd, Nat.reduceLeDiff, Nat.reduceLT, Nat.reduceMul, or_true, true_or, if_true, if_false, not_true_eq_false, and_self, bF, Nat.reduceBEq, Bool.false_and, Bool.and_false, Bool.or_self, Bool.or_false, Bool.false_or, Bool.false_eq_true, Int.reduceAdd, Bool.and_self, Bool.true_and, Bool.and_true, beq_self_eq_true, List.drop, gL, sL, sL2, kilL, pad, slotsN, Value.category, List.length, List.head?, Option.map_some, Option.toList, List.nil_append, List.cons_append, lift_e, retOK, and_true, true_and, RtM_z, List.length_cons, List.length_nil, tE hb, gI_pI, and_self, if_true]
  intro x hx
  rw [kn_1103515245] at hx
  subst hx
  replace hK := hK _ _ rfl rfl
  rw [nextQ_eq] at hK
  unfold drawI at hK
  refine ⟨fun q => ?_, fun q => ?_⟩
  · rw [if_neg (Int32.not_lt.mpr q)] at hK
    exact hK
  · have q' := Int32.not_le.mp q
    rw [if_pos q'] at hK
    exact ⟨fun e => by rw [e] at q'; exact i_lt_irr _ q', hK⟩
/-- one may be born, as the seed has it -/
noncomputable def bornE (E : ES) : ES :=
  if ¬ drawI (nextQ (eS E 3)) 4 = 0 ∨ ¬ cnt E < 10 then sS E 3 (nextQ (eS E 3))
  else if 0 < cnt E then addE (sS E 3 (nextQ (nextQ (nextQ (nextQ (eS E 3)))))) (drawI (nextQ (nextQ (eS E 3))) 6) (drawI (nextQ (nextQ (nextQ (eS E 3)))) 10) (eS E 1) (drawI (nextQ (nextQ (nextQ (nextQ (eS E 3))))) (eS E 4))
  else addE (sS E 3 (nextQ (nextQ (nextQ (eS E 3))))) (drawI (nextQ (nextQ (eS E 3))) 6) (drawI (nextQ (nextQ (nextQ (eS E 3)))) 10) (eS E 1) (-1)
theorem okE_sS3 {E : ES} (ho : okE E) (v : Int32) : okE (sS E 3 v) := by
  unfold okE at *
  rw [cnt_sS _ _ _ (by omega), eS_sS, eS_sS, if_neg (by omega), if_neg (by omega)]
  exact ho
theorem pos_nI {E : ES} (ho : okE E) : (eS E 4 ≤ 0) = ¬ 0 < cnt E := by
  rw [ho.1]
  have := ho.2.1
  rcases (show cnt E = 0 ∨ cnt E = 1 ∨ cnt E = 2 ∨ cnt E = 3 ∨ cnt E = 4 ∨ cnt E = 5 ∨ cnt E = 6 ∨ cnt E = 7 ∨ cnt E = 8 ∨ cnt E = 9 ∨ cnt E = 10 by omega) with q | q | q | q | q | q | q | q | q | q | q <;> rw [q] <;> decide
theorem sS_sS (E : ES) (k : Nat) (v v' : Int32) : sS (sS E k v) k v' = sS E k v' := est_ext (fun k' => by simp only [eS_sS]; split <;> rfl) (fun _ => rfl) (fun _ _ => rfl)
theorem cnt_s3 (E : ES) (v : Int32) : cnt (sS E 3 v) = cnt E := cnt_sS _ _ _ (by omega)
theorem if_10 {p : Prop} [Decidable p] : (((if p then 1 else 0) : Int32) = 0) = ¬ p := b2i_0
theorem if_01 {p : Prop} [Decidable p] : ((((if p then 1 else 0) : Int32) = 0) ∨ ((if p then 1 else 0) : Int32) = 1) = True := b2i_01
theorem lt10_n {E : ES} (ho : okE E) : (eS E 4 < 10) = (cnt E < 10) := by
  rw [ho.1]
  have := ho.2.1
  rcases (show cnt E = 0 ∨ cnt E = 1 ∨ cnt E = 2 ∨ cnt E = 3 ∨ cnt E = 4 ∨ cnt E = 5 ∨ cnt E = 6 ∨ cnt E = 7 ∨ cnt E = 8 ∨ cnt E = 9 ∨ cnt E = 10 by omega) with q | q | q | q | q | q | q | q | q | q | q <;> rw [q] <;> decide
def P_X0_drawBirth : Sp0T := fun as h K => match as with
  | [.ref b] => isE b ∧ okE (est h b) ∧ ∀ h', est h' b = bornE (est h b) → frE b h h' → K none h'
  | _ => False
def S_X0_drawBirth : SpT := lift P_X0_drawBirth
def L_X0_drawBirth_49 : List Item := (49, .istore_n 3, [], nS) :: (50, .aload_n 0, [], nS) :: (51, .iload_n 1, [], nS) :: (52, .iload_n 2, [], nS) :: (53, .aload_n 0, [], nS) :: (54, .getfield 29, [0, 1, 0], nS) :: (57, .iload_n 3, [], nS) :: (58, .invokevirtual 126, [4, 0, 0, 0], S_X0_addHeir) :: (61, .pop, [], nS) :: (62, .return_, [], nS) :: []
def L_X0_drawBirth_48 : List Item := (48, .iconst (-1), [], nS) :: (49, .nop, [], nS) :: L_X0_drawBirth_49
def L_X0_drawBirth_16 : List Item := (16, .aload_n 0, [], nS) :: (17, .bipush 6, [], nS) :: (19, .invokevirtual 123, [1, 0, 0, 0], S_X0_draw) :: (22, .istore_n 1, [], nS) :: (23, .aload_n 0, [], nS) :: (24, .bipush 10, [], nS) :: (26, .invokevirtual 123, [1, 0, 0, 0], S_X0_draw) :: (29, .istore_n 2, [], nS) :: (30, .aload_n 0, [], nS) :: (31, .getfield 35, [0, 4, 0], nS) :: (34, .ifCond .le 14, [48], nS) :: (37, .aload_n 0, [], nS) :: (38, .aload_n 0, [], nS) :: (39, .getfield 35, [0, 4, 0], nS) :: (42, .invokevirtual 123, [1, 0, 0, 0], S_X0_draw) :: (45, .goto 4, [49], nS) :: L_X0_drawBirth_48
def L_X0_drawBirth_15 : List Item := (15, .return_, [], nS) :: (16, .nop, [], nS) :: L_X0_drawBirth_16
def L_X0_drawBirth_0 : List Item := (0, .aload_n 0, [], nS) :: (1, .iconst 4, [], nS) :: (2, .invokevirtual 123, [1, 0, 0, 0], S_X0_draw) :: (5, .ifCond .ne 10, [15], nS) :: (8, .aload_n 0, [], nS) :: (9, .invokevirtual 51, [0, 0, 0, 0], S_X0_hasRoom) :: (12, .ifCond .ne 4, [16], nS) :: L_X0_drawBirth_15
def L_X0_drawBirth : List Item := L_X0_drawBirth_0
theorem ok_X0_drawBirth : okB cX0_drawBirth L_X0_drawBirth = true := by decide +kernel
theorem lk_X0_drawBirth (l : Launch) : LKs l RX0 3 false L_X0_drawBirth := ⟨trivial, trivial, ⟨_, _, _, _, _, _, _, _, _, rfl, c_X0_draw l, Or.inl ⟨by decide, yv_X0_draw⟩, by decide, gT_of (List.mem_of_getElem? (i := 696) (by decide +kernel)) rfl⟩, trivial, trivial, ⟨_, _, _, _, _, _, _, _, _, rfl, c_X0_hasRoom l, Or.inl ⟨by decide, yv_X0_hasRoom⟩, by decide, gT_of (List.mem_of_getElem? (i := 429) (by decide +kernel)) rfl⟩, trivial, trivial, trivial, trivial, trivial, ⟨_, _, _, _, _, _, _, _, _, rfl, c_X0_draw l, Or.inl ⟨by decide, yv_X0_draw⟩, by decide, gT_of (List.mem_of_getElem? (i := 696) (by decide +kernel)) rfl⟩, trivial, trivial, trivial, ⟨_, _, _, _, _, _, _, _, _, rfl, c_X0_draw l, Or.inl ⟨by decide, yv_X0_draw⟩, by decide, gT_of (List.mem_of_getElem? (i := 696) (by decide +kernel)) rfl⟩, trivial, trivial, ⟨_, _, _, rfl, ⟨(RX0, TX0, 7), rfl, by decide, gT_of (List.mem_of_getElem? (i := 106) (by decide +kernel)) rfl⟩, rfl⟩, trivial, trivial, trivial, ⟨_, _, _, rfl, ⟨(RX0, TX0, 7), rfl, by decide, gT_of (List.mem_of_getElem? (i := 106) (by decide +kernel)) rfl⟩, rfl⟩, ⟨_, _, _, _, _, _, _, _, _, rfl, c_X0_draw l, Or.inl ⟨by decide, yv_X0_draw⟩, by decide, gT_of (List.mem_of_getElem? (i := 696) (by decide +kernel)) rfl⟩, trivial, trivial, trivial, trivial, trivial, trivial, trivial, trivial, ⟨_, _, _, rfl, ⟨(RX0, TX0, 7), rfl, by decide, gT_of (List.mem_of_getElem? (i := 98) (by decide +kernel)) rfl⟩, rfl⟩, trivial, ⟨_, _, _, _, _, _, _, _, _, rfl, c_X0_addHeir l, Or.inl ⟨by decide, yv_X0_addHeir⟩, by decide, gT_of (List.mem_of_getElem? (i := 701) (by decide +kernel)) rfl⟩, trivial, trivial, trivial⟩
theorem b_X0_drawBirth_0 : atL L_X0_drawBirth 0 = L_X0_drawBirth_0 := rfl
theorem b_X0_drawBirth_15 : atL L_X0_drawBirth 15 = L_X0_drawBirth_15 := rfl
theorem b_X0_drawBirth_16 : atL L_X0_drawBirth 16 = L_X0_drawBirth_16 := rfl
theorem b_X0_drawBirth_48 : atL L_X0_drawBirth 48 = L_X0_drawBirth_48 := rfl
theorem b_X0_drawBirth_49 : atL L_X0_drawBirth 49 = L_X0_drawBirth_49 := rfl
theorem a_X0_drawBirth_15 : afw L_X0_drawBirth [16, 49] 15 = L_X0_drawBirth_15 := rfl
theorem a_X0_drawBirth_48 : afw L_X0_drawBirth [16, 49] 48 = L_X0_drawBirth_48 := rfl
theorem a_X0_drawBirth_16 : afw L_X0_drawBirth [16, 49] 16 = [] := rfl
theorem a_X0_drawBirth_49 : afw L_X0_drawBirth [16, 49] 49 = [] := rfl
theorem yv_X0_drawBirth : YV yX0_drawBirth cX0_drawBirth 4 none 0 0 := ⟨⟨gT_of (List.mem_of_getElem? (i := 695) (by decide +kernel)) rfl, gT_of (List.mem_of_getElem? (i := 27) (by decide +kernel)) rfl, ⟨by decide, by decide⟩, by decide +kernel, by decide⟩, gT_of (List.mem_of_getElem? (i := 693) (by decide +kernel)) rfl, gT_of (List.mem_of_getElem? (i := 694) (by decide +kernel)) rfl, rfl⟩
set_option maxRecDepth 100000 in
set_option maxHeartbeats 4000000 in
theorem c_X0_drawBirth (l : Launch) : Ct l yX0_drawBirth cX0_drawBirth 4 none 3 0 0 S_X0_drawBirth := by
  refine Ct0_mk L_X0_drawBirth [16, 49] (by decide +kernel) (by decide) ok_X0_drawBirth (lk_X0_drawBirth l) ?_
  intro nn as h K hP
  match as, hP with
  | [.ref b], ⟨hb, ho, hK⟩ =>
  refine ⟨by simp [slotsN, Value.category], fun J hJ => ?_⟩
  have g3 := est_s (h := h) (b := b) (k := 3) (by omega)
  have g4 : ∀ v, gI (pI h b 3 v) b 4 = eS (est h b) 4 := fun v => by rw [gS_s, if_neg (by omega), est_s (by omega)]
  have g1 : ∀ v, gI (pI h b 3 v) b 1 = eS (est h b) 1 := fun v => by rw [gS_s, if_neg (by omega), est_s (by omega)]
  have g33 : ∀ v, gI (pI h b 3 v) b 3 = v := fun v => by rw [gS_s, if_pos rfl]
  have gpp : ∀ v w, pI (pI h b 3 v) b 3 w = pI h b 3 w := fun v w => by
    refine Prod.ext (funext fun c => funext fun k => ?_) rfl
    show gI (pI (pI h b 3 v) b 3 w) c k = gI (pI h b 3 w) c k
    simp only [gI_pI]
    split <;> simp_all
  refine hJ 0 _ _ _ _ ?_
  simp only [b_X0_drawBirth_0, goF_s, jmp_n, jmp_c, L_X0_drawBirth_0, L_X0_drawBirth_15, L_X0_drawBirth_16, L_X0_drawBirth_48, L_X0_drawBirth_49, a_X0_drawBirth_15, a_X0_drawBirth_16, a_X0_drawBirth_48, a_X0_drawBirth_49, g_nop, g_iconst, g_bipush, g_iload_n, g_aload_n, g_istore_n, g_pop, g_if_eq, g_if_ne, g_if_lt, g_if_ge, g_if_gt, g_if_le, g_goto, g_getfield, g_invokevirtual, g_return_, pI1, pL1, pII, pLL, pLI, pR1, pIR, pIIR, pLIR, pRIR, pRR, pCP, pV1, pV2, pV3, vI, vL, vR, popN, eSt, br1, gtF, ptF, ldK, cV, cI, cS, swJ, capO, S_X0_addHeir, S_X0_draw, S_X0_hasRoom, P_X0_addHeir, P_X0_draw, P_X0_hasRoom, capO_z, if00, if10, rv_s, kb_6, kb_11, kb_13, kb_15, kb_17, kb_18, kb_19, kb_23, kb_24, kb_25, kb_26, kb_29, kb_31, kb_35, kb_37, kb_41, kb_43, kb_44, kb_61, kb_75, kb_104, kb_7, kb_8, kb_9, kb_10, kb_12, kb_16, kb_20, kb_21, kb_30, kb_32, kb_40, kb_48, kb_50, kb_57, kb_59, kb_60, kb_63, kb_70, kb_78, kb_81, kb_82, kb_84, kb_97, kb_99, kb_100, kb_101, kb_119, kb_120, kb_122, ki_m1, ki_0, ki_1, ki_2, ki_3, ki_4, ki_5, ki_6, ki_7, ki_8, ki_9, ki_10, ki_11, ki_12, ki_13, ki_14, ki_15, ki_16, ki_17, ki_18, ki_19, ki_20, ki_21, ki_22, ki_23, ki_24, ki_25, ki_26, ki_27, ki_28, ki_29, ki_30, ki_31, ki_32, ki_33, ki_34, ki_35, ki_36, ki_37, ki_38, ki_39, ki_40, ki_41, ki_42, ki_43, ki_44, ki_45, ki_46, ki_47, ki_48, ki_49, ki_50, ki_51, ki_52, ki_53, ki_54, ki_55, ki_56, ki_57, ki_58, ki_59, ki_60, ki_61, ki_62, ki_63, ks_m2000, ks_m1006, ks_m1005, ks_m1004, ks_m1003, ks_m1002, ks_m1000, ks_200, ks_201, ks_300, ks_720, ks_9000, ks_10000, ks_250, ks_255, ks_256, ks_320, ks_660, ks_999, ks_1000, ks_9999, ks_12345, ne_2, ne_10, kc_0, kc_1, kf_0, kf_1, kf_2, kf_3, t_0, t_40, t_41, t_42, t_43, t_44, t_45, t_46, t_47, r_0_0, r_0_1, r_0_2, r_0_4, r_0_5, r_0_6, r_0_7, r_40_0, r_40_5, r_44_0, r_44_1, t_1, t_14, t_27, t_2, t_15, t_28, t_64, Nat.reduceEqDiff, ne_eq, not_false_eq_true, false_implies, true_implies, implies_true, Nat.reduceAdd, Nat.reduceLeDiff, Nat.reduceLT, Nat.reduceMul, or_true, true_or, if_true, if_false, not_true_eq_false, and_self, bF, Nat.reduceBEq, Bool.false_and, Bool.and_false, Bool.or_self, Bool.or_false, Bool.false_or, Bool.false_eq_true, Int.reduceAdd, Bool.and_self, Bool.true_and, Bool.and_true, beq_self_eq_true, List.drop, gL, sL, sL2, kilL, pad, slotsN, Value.category, List.length, List.head?, Option.map_some, Option.toList, List.nil_append, List.cons_append, lift_e, retOK, and_true, true_and, RtM_z, List.length_cons, List.length_nil, tE hb, ← g3, g4, if_10, if_01, lt10_n ho]
  refine ⟨hb, fun s1 d1 es1 ed1 => ⟨fun q => hK _ ?_ (frE_s (frE_rf b h)), fun q => ⟨hb, fun q2 => ?_, fun q2 => hK _ ?_ (frE_s (frE_rf b h))⟩⟩⟩
  · rw [est_pS (by omega)]; unfold bornE; rw [← es1, ← ed1, if_pos (Or.inl q)]
  · have q2' := Decidable.not_not.mp q2
    have k49 : ∀ (d2 d3 f s : Int32) (u v : Value), (∀ h', est h' b = addE (sS (est h b) 3 s) d2 d3 (eS (est h b) 1) f → frE b h h' → K none (SHn nn) h') → J 49 (SHn nn) [.ref b, .int d2, .int d3, u] [.int f] (pI h b 3 s) := fun d2 d3 f s u v hk => by
      refine hJ 49 _ _ _ _ ?_
      simp only [b_X0_drawBirth_49, goF_s, jmp_n, jmp_c, L_X0_drawBirth_0, L_X0_drawBirth_15, L_X0_drawBirth_16, L_X0_drawBirth_48, L_X0_drawBirth_49, a_X0_drawBirth_15, a_X0_drawBirth_16, a_X0_drawBirth_48, a_X0_drawBirth_49, g_nop, g_iconst, g_bipush, g_iload_n, g_aload_n, g_istore_n, g_pop, g_if_eq, g_if_ne, g_if_lt, g_if_ge, g_if_gt, g_if_le, g_goto, g_getfield, g_invokevirtual, g_return_, pI1, pL1, pII, pLL, pLI, pR1, pIR, pIIR, pLIR, pRIR, pRR, pCP, pV1, pV2, pV3, vI, vL, vR, popN, eSt, br1, gtF, ptF, ldK, cV, cI, cS, swJ, capO, S_X0_addHeir, S_X0_draw, S_X0_hasRoom, P_X0_addHeir, P_X0_draw, P_X0_hasRoom, capO_z, if00, if10, rv_s, kb_6, kb_11, kb_13, kb_15, kb_17, kb_18, kb_19, kb_23, kb_24, kb_25, kb_26, kb_29, kb_31, kb_35, kb_37, kb_41, kb_43, kb_44, kb_61, kb_75, kb_104, kb_7, kb_8, kb_9, kb_10, kb_12, kb_16, kb_20, kb_21, kb_30, kb_32, kb_40, kb_48, kb_50, kb_57, kb_59, kb_60, kb_63, kb_70, kb_78, kb_81, kb_82, kb_84, kb_97, kb_99, kb_100, kb_101, kb_119, kb_120, kb_122, ki_m1, ki_0, ki_1, ki_2, ki_3, ki_4, ki_5, ki_6, ki_7, ki_8, ki_9, ki_10, ki_11, ki_12, ki_13, ki_14, ki_15, ki_16, ki_17, ki_18, ki_19, ki_20, ki_21, ki_22, ki_23, ki_24, ki_25, ki_26, ki_27, ki_28, ki_29, ki_30, ki_31, ki_32, ki_33, ki_34, ki_35, ki_36, ki_37, ki_38, ki_39, ki_40, ki_41, ki_42, ki_43, ki_44, ki_45, ki_46, ki_47, ki_48, ki_49, ki_50, ki_51, ki_52, ki_53, ki_54, ki_55, ki_56, ki_57, ki_58, ki_59, ki_60, ki_61, ki_62, ki_63, ks_m2000, ks_m1006, ks_m1005, ks_m1004, ks_m1003, ks_m1002, ks_m1000, ks_200, ks_201, ks_300, ks_720, ks_9000, ks_10000, ks_250, ks_255, ks_256, ks_320, ks_660, ks_999, ks_1000, ks_9999, ks_12345, ne_2, ne_10, kc_0, kc_1, kf_0, kf_1, kf_2, kf_3, t_0, t_40, t_41, t_42, t_43, t_44, t_45, t_46, t_47, r_0_0, r_0_1, r_0_2, r_0_4, r_0_5, r_0_6, r_0_7, r_40_0, r_40_5, r_44_0, r_44_1, t_1, t_14, t_27, t_2, t_15, t_28, t_64, Nat.reduceEqDiff, ne_eq, not_false_eq_true, false_implies, true_implies, implies_true, Nat.reduceAdd, Nat.reduceLeDiff, Nat.reduceLT, Nat.reduceMul, or_true, true_or, if_true, if_false, not_true_eq_false, and_self, bF, Nat.reduceBEq, Bool.false_and, Bool.and_false, Bool.or_self, Bool.or_false, Bool.false_or, Bool.false_eq_true, Int.reduceAdd, Bool.and_self, Bool.true_and, Bool.and_true, beq_self_eq_true, List.drop, gL, sL, sL2, kilL, pad, slotsN, Value.category, List.length, List.head?, Option.map_some, Option.toList, List.nil_append, List.cons_append, lift_e, retOK, and_true, true_and, RtM_z, List.length_cons, List.length_nil, tE hb, g1]
      simp only [est_pS (show 3 < 4 by omega), cnt_s3]
      exact ⟨hb, okE_sS3 ho _, fun z => absurd q2' z, fun _ h' e f => hk h' e (frE_tr (frE_s (frE_rf b h)) f)⟩
    refine hJ 16 _ _ _ _ ?_
    simp only [b_X0_drawBirth_16, goF_s, jmp_n, jmp_c, L_X0_drawBirth_0, L_X0_drawBirth_15, L_X0_drawBirth_16, L_X0_drawBirth_48, L_X0_drawBirth_49, a_X0_drawBirth_15, a_X0_drawBirth_16, a_X0_drawBirth_48, a_X0_drawBirth_49, g_nop, g_iconst, g_bipush, g_iload_n, g_aload_n, g_istore_n, g_pop, g_if_eq, g_if_ne, g_if_lt, g_if_ge, g_if_gt, g_if_le, g_goto, g_getfield, g_invokevirtual, g_return_, pI1, pL1, pII, pLL, pLI, pR1, pIR, pIIR, pLIR, pRIR, pRR, pCP, pV1, pV2, pV3, vI, vL, vR, popN, eSt, br1, gtF, ptF, ldK, cV, cI, cS, swJ, capO, S_X0_addHeir, S_X0_draw, S_X0_hasRoom, P_X0_addHeir, P_X0_draw, P_X0_hasRoom, capO_z, if00, if10, rv_s, kb_6, kb_11, kb_13, kb_15, kb_17, kb_18, kb_19, kb_23, kb_24, kb_25, kb_26, kb_29, kb_31, kb_35, kb_37, kb_41, kb_43, kb_44, kb_61, kb_75, kb_104, kb_7, kb_8, kb_9, kb_10, kb_12, kb_16, kb_20, kb_21, kb_30, kb_32, kb_40, kb_48, kb_50, kb_57, kb_59, kb_60, kb_63, kb_70, kb_78, kb_81, kb_82, kb_84, kb_97, kb_99, kb_100, kb_101, kb_119, kb_120, kb_122, ki_m1, ki_0, ki_1, ki_2, ki_3, ki_4, ki_5, ki_6, ki_7, ki_8, ki_9, ki_10, ki_11, ki_12, ki_13, ki_14, ki_15, ki_16, ki_17, ki_18, ki_19, ki_20, ki_21, ki_22, ki_23, ki_24, ki_25, ki_26, ki_27, ki_28, ki_29, ki_30, ki_31, ki_32, ki_33, ki_34, ki_35, ki_36, ki_37, ki_38, ki_39, ki_40, ki_41, ki_42, ki_43, ki_44, ki_45, ki_46, ki_47, ki_48, ki_49, ki_50, ki_51, ki_52, ki_53, ki_54, ki_55, ki_56, ki_57, ki_58, ki_59, ki_60, ki_61, ki_62, ki_63, ks_m2000, ks_m1006, ks_m1005, ks_m1004, ks_m1003, ks_m1002, ks_m1000, ks_200, ks_201, ks_300, ks_720, ks_9000, ks_10000, ks_250, ks_255, ks_256, ks_320, ks_660, ks_999, ks_1000, ks_9999, ks_12345, ne_2, ne_10, kc_0, kc_1, kf_0, kf_1, kf_2, kf_3, t_0, t_40, t_41, t_42, t_43, t_44, t_45, t_46, t_47, r_0_0, r_0_1, r_0_2, r_0_4, r_0_5, r_0_6, r_0_7, r_40_0, r_40_5, r_44_0, r_44_1, t_1, t_14, t_27, t_2, t_15, t_28, t_64, Nat.reduceEqDiff, ne_eq, not_false_eq_true, false_implies, true_implies, implies_true, Nat.reduceAdd, Nat.reduceLeDiff, Nat.reduceLT, Nat.reduceMul, or_true, true_or, if_true, if_false, not_true_eq_false, and_self, bF, Nat.reduceBEq, Bool.false_and, Bool.and_false, Bool.or_self, Bool.or_false, Bool.false_or, Bool.false_eq_true, Int.reduceAdd, Bool.and_self, Bool.true_and, Bool.and_true, beq_self_eq_true, List.drop, gL, sL, sL2, kilL, pad, slotsN, Value.category, List.length, List.head?, Option.map_some, Option.toList, List.nil_append, List.cons_append, lift_e, retOK, and_true, true_and, RtM_z, List.length_cons, List.length_nil, tE hb, g4, g33, gpp, pos_nI ho]
    refine ⟨hb, fun s2 d2 es2 ed2 => ⟨hb, fun s3 d3 es3 ed3 => ⟨fun q3 => k49 _ _ _ _ _ .null fun h' e f => hK _ ?_ f, fun q3 => ⟨hb, fun s4 d4 es4 ed4 => k49 _ _ _ _ _ .null fun h' e f => hK _ ?_ f⟩⟩⟩⟩
    · rw [e]; unfold bornE; rw [← es1, ← es2, ← es3, ← ed1, ← ed2, ← ed3, if_neg (fun z => z.elim (fun y => y q) (fun y => q2 y)), if_neg q3]
    · rw [e]; unfold bornE; rw [← es1, ← es2, ← es3, ← es4, ← ed1, ← ed2, ← ed3, ← ed4, if_neg (fun z => z.elim (fun y => y q) (fun y => q2 y)), if_pos (Decidable.not_not.mp q3)]
  · rw [est_pS (by omega)]; unfold bornE; rw [← es1, ← ed1, if_pos (Or.inr q2)]
theorem isE_ne {b b2 : Nat} (h : isE b) (h2 : isE b2) (hn : b ≠ b2) : b2 + 13 ≤ b ∨ b + 13 ≤ b2 := by
  rcases h with rfl | rfl | rfl <;> rcases h2 with rfl | rfl | rfl <;> first | exact absurd rfl hn | omega
theorem neH {b b2 : Nat} (hd : b2 + 13 ≤ b ∨ b + 13 ≤ b2) (i j : Nat) (hi : i < 10) (hj : j < 10) : b + 3 + i ≠ b2 + 3 + j := by omega
theorem neJ (b i t k : Nat) : ¬ (b + 1 = b + 3 + i ∧ t = k) := by omega
theorem neK (b i j k k' : Nat) (q : ¬ j = i) : ¬ (b + 3 + j = b + 3 + i ∧ k = k') := by omega
theorem neL {b b2 : Nat} (hd : b2 + 13 ≤ b ∨ b + 13 ≤ b2) (t k : Nat) : ¬ (b2 + 1 = b ∧ t = k) := by omega
theorem gI_rowI2 (h : AH) (c : Nat) (f : Nat → Int32) (c' k : Nat) : gI (rowI h c f) c' k = if c' = c then f k else gI h c' k := by
  unfold gI rowI
  by_cases e : c' = c <;> simp [e]
theorem frE_row {b c : Nat} {h h' : AH} {f : Nat → Int32} (h1 : frE b h h') (hc : b ≤ c ∧ c < b + 13) : frE b h (rowI h' c f) := ⟨fun c' k' hc' => by rw [gI_rowI2, if_neg (by omega)]; exact h1.1 c' k' hc', fun c' k' => h1.2 c' k'⟩
def P_X0_copyFrom : Sp0T := fun as h K => match as with
  | [.ref b, .ref b2] => isE b ∧ isE b2 ∧ b ≠ b2 ∧ okE (est h b2) ∧ ∀ h', est h' b = est h b2 → frE b h h' → K none h'
  | _ => False
def S_X0_copyFrom : SpT := lift P_X0_copyFrom
def L_X0_copyFrom_86 : List Item := (86, .return_, [], nS) :: []
def L_X0_copyFrom_57 : List Item := (57, .iload_n 2, [], nS) :: (58, .aload_n 0, [], nS) :: (59, .getfield 35, [0, 4, 0], nS) :: (62, .if_icmp .ge 24, [86], nS) :: (65, .aload_n 0, [], nS) :: (66, .getfield 24, [0, 6, 1], nS) :: (69, .iload_n 2, [], nS) :: (70, .aaload, [], nS) :: (71, .aload_n 1, [], nS) :: (72, .getfield 24, [0, 6, 1], nS) :: (75, .iload_n 2, [], nS) :: (76, .aaload, [], nS) :: (77, .invokevirtual 44, [1, 1, 0, 0], S_X1_copyFrom) :: (80, .iinc 2 1, [], nS) :: (83, .goto (-26), [57], nS) :: L_X0_copyFrom_86
def L_X0_copyFrom_0 : List Item := (0, .aload_n 0, [], nS) :: (1, .aload_n 1, [], nS) :: (2, .getfield 9, [0, 0, 0], nS) :: (5, .putfield 9, [0, 0, 0], nS) :: (8, .aload_n 0, [], nS) :: (9, .aload_n 1, [], nS) :: (10, .getfield 29, [0, 1, 0], nS) :: (13, .putfield 29, [0, 1, 0], nS) :: (16, .aload_n 0, [], nS) :: (17, .aload_n 1, [], nS) :: (18, .getfield 32, [0, 2, 0], nS) :: (21, .putfield 32, [0, 2, 0], nS) :: (24, .aload_n 0, [], nS) :: (25, .aload_n 1, [], nS) :: (26, .getfield 15, [0, 3, 0], nS) :: (29, .putfield 15, [0, 3, 0], nS) :: (32, .aload_n 0, [], nS) :: (33, .aload_n 1, [], nS) :: (34, .getfield 35, [0, 4, 0], nS) :: (37, .putfield 35, [0, 4, 0], nS) :: (40, .aload_n 1, [], nS) :: (41, .getfield 18, [0, 5, 1], nS) :: (44, .iconst 0, [], nS) :: (45, .aload_n 0, [], nS) :: (46, .getfield 18, [0, 5, 1], nS) :: (49, .iconst 0, [], nS) :: (50, .bipush 8, [], nS) :: (52, .invokestatic 38, [3], nS) :: (55, .iconst 0, [], nS) :: (56, .istore_n 2, [], nS) :: (57, .nop, [], nS) :: L_X0_copyFrom_57
def L_X0_copyFrom : List Item := L_X0_copyFrom_0
theorem ok_X0_copyFrom : okB cX0_copyFrom L_X0_copyFrom = true := by decide +kernel
theorem lk_X0_copyFrom (l : Launch) : LKs l RX0 2 false L_X0_copyFrom := ⟨trivial, trivial, ⟨_, _, _, rfl, ⟨(RX0, TX0, 7), rfl, by decide, gT_of (List.mem_of_getElem? (i := 95) (by decide +kernel)) rfl⟩, rfl⟩, ⟨_, _, _, rfl, ⟨(RX0, TX0, 7), rfl, by decide, gT_of (List.mem_of_getElem? (i := 95) (by decide +kernel)) rfl⟩, rfl, fun q => absurd rfl q⟩, trivial, trivial, ⟨_, _, _, rfl, ⟨(RX0, TX0, 7), rfl, by decide, gT_of (List.mem_of_getElem? (i := 98) (by decide +kernel)) rfl⟩, rfl⟩, ⟨_, _, _, rfl, ⟨(RX0, TX0, 7), rfl, by decide, gT_of (List.mem_of_getElem? (i := 98) (by decide +kernel)) rfl⟩, rfl, fun q => absurd rfl q⟩, trivial, trivial, ⟨_, _, _, rfl, ⟨(RX0, TX0, 7), rfl, by decide, gT_of (List.mem_of_getElem? (i := 101) (by decide +kernel)) rfl⟩, rfl⟩, ⟨_, _, _, rfl, ⟨(RX0, TX0, 7), rfl, by decide, gT_of (List.mem_of_getElem? (i := 101) (by decide +kernel)) rfl⟩, rfl, fun q => absurd rfl q⟩, trivial, trivial, ⟨_, _, _, rfl, ⟨(RX0, TX0, 7), rfl, by decide, gT_of (List.mem_of_getElem? (i := 104) (by decide +kernel)) rfl⟩, rfl⟩, ⟨_, _, _, rfl, ⟨(RX0, TX0, 7), rfl, by decide, gT_of (List.mem_of_getElem? (i := 104) (by decide +kernel)) rfl⟩, rfl, fun q => absurd rfl q⟩, trivial, trivial, ⟨_, _, _, rfl, ⟨(RX0, TX0, 7), rfl, by decide, gT_of (List.mem_of_getElem? (i := 106) (by decide +kernel)) rfl⟩, rfl⟩, ⟨_, _, _, rfl, ⟨(RX0, TX0, 7), rfl, by decide, gT_of (List.mem_of_getElem? (i := 106) (by decide +kernel)) rfl⟩, rfl, fun q => absurd rfl q⟩, trivial, ⟨_, _, _, rfl, ⟨(RX0, TX0, 7), rfl, by decide, gT_of (List.mem_of_getElem? (i := 109) (by decide +kernel)) rfl⟩, rfl⟩, trivial, trivial, ⟨_, _, _, rfl, ⟨(RX0, TX0, 7), rfl, by decide, gT_of (List.mem_of_getElem? (i := 109) (by decide +kernel)) rfl⟩, rfl⟩, trivial, trivial, Or.inr (Or.inr (Or.inr ⟨Or.inl rfl, gT_of (List.mem_of_getElem? (i := 309) (by decide +kernel)) rfl⟩)), trivial, trivial, trivial, trivial, trivial, ⟨_, _, _, rfl, ⟨(RX0, TX0, 7), rfl, by decide, gT_of (List.mem_of_getElem? (i := 106) (by decide +kernel)) rfl⟩, rfl⟩, trivial, trivial, ⟨_, _, _, rfl, ⟨(RX0, TX0, 7), rfl, by decide, gT_of (List.mem_of_getElem? (i := 112) (by decide +kernel)) rfl⟩, rfl⟩, trivial, trivial, trivial, ⟨_, _, _, rfl, ⟨(RX0, TX0, 7), rfl, by decide, gT_of (List.mem_of_getElem? (i := 112) (by decide +kernel)) rfl⟩, rfl⟩, trivial, trivial, ⟨_, _, _, _, _, _, _, _, _, rfl, c_X1_copyFrom l, Or.inl ⟨by decide, yv_X1_copyFrom⟩, by decide, gT_of (List.mem_of_getElem? (i := 312) (by decide +kernel)) rfl⟩, trivial, trivial, trivial, trivial⟩
theorem b_X0_copyFrom_0 : atL L_X0_copyFrom 0 = L_X0_copyFrom_0 := rfl
theorem b_X0_copyFrom_57 : atL L_X0_copyFrom 57 = L_X0_copyFrom_57 := rfl
theorem b_X0_copyFrom_86 : atL L_X0_copyFrom 86 = L_X0_copyFrom_86 := rfl
theorem a_X0_copyFrom_86 : afw L_X0_copyFrom [57] 86 = L_X0_copyFrom_86 := rfl
theorem a_X0_copyFrom_57 : afw L_X0_copyFrom [57] 57 = [] := rfl
theorem yv_X0_copyFrom : YV yX0_copyFrom cX0_copyFrom 3 none 1 0 := ⟨⟨gT_of (List.mem_of_getElem? (i := 308) (by decide +kernel)) rfl, gT_of (List.mem_of_getElem? (i := 27) (by decide +kernel)) rfl, ⟨by decide, by decide⟩, by decide +kernel, by decide⟩, gT_of (List.mem_of_getElem? (i := 306) (by decide +kernel)) rfl, gT_of (List.mem_of_getElem? (i := 307) (by decide +kernel)) rfl, rfl⟩
set_option maxRecDepth 100000 in
set_option maxHeartbeats 4000000 in
theorem c_X0_copyFrom (l : Launch) : Ct l yX0_copyFrom cX0_copyFrom 3 none 2 0 0 S_X0_copyFrom := by
  refine Ct0_mk L_X0_copyFrom [57] (by decide +kernel) (by decide) ok_X0_copyFrom (lk_X0_copyFrom l) ?_
  intro nn as h K hP
  match as, hP with
  | [.ref b, .ref b2], ⟨hb, hb2, hne, ho, hK⟩ =>
  refine ⟨by simp [slotsN, Value.category], fun J hJ => ?_⟩
  have hd := isE_ne hb hb2 hne
  have hn := ho.2.1
  have hc := est_c ho
  have e1 : ∀ (h : AH) (k : Nat) (v : Int32) (k' : Nat), gI (pI h b k v) b2 k' = gI h b2 k' := fun h k v k' => by rw [gI_pI, if_neg (by omega)]
  refine hJ 0 _ _ _ _ ?_
  simp only [b_X0_copyFrom_0, goF_s, jmp_n, jmp_c, L_X0_copyFrom_0, L_X0_copyFrom_57, L_X0_copyFrom_86, a_X0_copyFrom_57, a_X0_copyFrom_86, g_nop, g_iconst, g_bipush, g_iload_n, g_aload_n, g_istore_n, g_iinc, g_ic_eq, g_ic_ne, g_ic_lt, g_ic_ge, g_ic_gt, g_ic_le, g_goto, g_getfield, g_putfield, g_aaload, g_invokevirtual, g_invokestatic, g_return_, pI1, pL1, pII, pLL, pLI, pR1, pIR, pIIR, pLIR, pRIR, pRR, pCP, pV1, pV2, pV3, vI, vL, vR, popN, eSt, br1, gtF, ptF, ldK, cV, cI, cS, swJ, capO, S_X1_copyFrom, P_X1_copyFrom, capO_z, if00, if10, rv_s, kb_6, kb_11, kb_13, kb_15, kb_17, kb_18, kb_19, kb_23, kb_24, kb_25, kb_26, kb_29, kb_31, kb_35, kb_37, kb_41, kb_43, kb_44, kb_61, kb_75, kb_104, kb_7, kb_8, kb_9, kb_10, kb_12, kb_16, kb_20, kb_21, kb_30, kb_32, kb_40, kb_48, kb_50, kb_57, kb_59, kb_60, kb_63, kb_70, kb_78, kb_81, kb_82, kb_84, kb_97, kb_99, kb_100, kb_101, kb_119, kb_120, kb_122, ki_m1, ki_0, ki_1, ki_2, ki_3, ki_4, ki_5, ki_6, ki_7, ki_8, ki_9, ki_10, ki_11, ki_12, ki_13, ki_14, ki_15, ki_16, ki_17, ki_18, ki_19, ki_20, ki_21, ki_22, ki_23, ki_24, ki_25, ki_26, ki_27, ki_28, ki_29, ki_30, ki_31, ki_32, ki_33, ki_34, ki_35, ki_36, ki_37, ki_38, ki_39, ki_40, ki_41, ki_42, ki_43, ki_44, ki_45, ki_46, ki_47, ki_48, ki_49, ki_50, ki_51, ki_52, ki_53, ki_54, ki_55, ki_56, ki_57, ki_58, ki_59, ki_60, ki_61, ki_62, ki_63, ks_m2000, ks_m1006, ks_m1005, ks_m1004, ks_m1003, ks_m1002, ks_m1000, ks_200, ks_201, ks_300, ks_720, ks_9000, ks_10000, ks_250, ks_255, ks_256, ks_320, ks_660, ks_999, ks_1000, ks_9999, ks_12345, ne_2, ne_10, kc_0, kc_1, kf_0, kf_1, kf_2, kf_3, t_0, t_40, t_41, t_42, t_43, t_44, t_45, t_46, t_47, r_0_0, r_0_1, r_0_2, r_0_4, r_0_5, r_0_6, r_0_7, r_40_0, r_40_5, r_44_0, r_44_1, t_1, t_14, t_27, t_2, t_15, t_28, t_64, Nat.reduceEqDiff, ne_eq, not_false_eq_true, false_implies, true_implies, implies_true, Nat.reduceAdd, Nat.reduceLeDiff, Nat.reduceLT, Nat.reduceMul, or_true, true_or, if_true, if_false, not_true_eq_false, and_self, bF, Nat.reduceBEq, Bool.false_and, Bool.and_false, Bool.or_self, Bool.or_false, Bool.false_or, Bool.false_eq_true, Int.reduceAdd, Bool.and_self, Bool.true_and, Bool.and_true, beq_self_eq_true, List.drop, gL, sL, sL2, kilL, pad, slotsN, Value.category, List.length, List.head?, Option.map_some, Option.toList, List.nil_append, List.cons_append, lift_e, retOK, and_true, true_and, RtM_z, List.length_cons, List.length_nil, tE hb, tE hb2, e1, tE1 hb, tE1 hb2, rE5 hb, rE5 hb2]
  refine ⟨by decide, ?_⟩
  refine dn (P := fun i => ∀ h', (∀ k, k < 5 → gI h' b k = gI h b2 k) → (∀ t, t < 8 → gI h' (b + 1) t = gI h (b2 + 1) t) → (∀ j k, j < i → k < 7 → gI h' (b + 3 + j) k = gI h (b2 + 3 + j) k) → frE b h h' → J 57 (SHn nn) [.ref b, .ref b2, .int (nI i)] [] h') (cnt (est h b2)) ?_ (fun i hi ih h' p1 p2 p3 hf => ?_) _ ?_ ?_ (fun j k z => absurd z (Nat.not_lt_zero _)) ?_
  · intro h' p1 p2 p3 hf
    have hc' : gI h' b 4 = nI (cnt (est h b2)) := by rw [p1 4 (by omega), hc]
    refine hJ 57 _ _ _ _ ?_
    simp only [b_X0_copyFrom_57, goF_s, jmp_n, jmp_c, L_X0_copyFrom_0, L_X0_copyFrom_57, L_X0_copyFrom_86, a_X0_copyFrom_57, a_X0_copyFrom_86, g_nop, g_iconst, g_bipush, g_iload_n, g_aload_n, g_istore_n, g_iinc, g_ic_eq, g_ic_ne, g_ic_lt, g_ic_ge, g_ic_gt, g_ic_le, g_goto, g_getfield, g_putfield, g_aaload, g_invokevirtual, g_invokestatic, g_return_, pI1, pL1, pII, pLL, pLI, pR1, pIR, pIIR, pLIR, pRIR, pRR, pCP, pV1, pV2, pV3, vI, vL, vR, popN, eSt, br1, gtF, ptF, ldK, cV, cI, cS, swJ, capO, S_X1_copyFrom, P_X1_copyFrom, capO_z, if00, if10, rv_s, kb_6, kb_11, kb_13, kb_15, kb_17, kb_18, kb_19, kb_23, kb_24, kb_25, kb_26, kb_29, kb_31, kb_35, kb_37, kb_41, kb_43, kb_44, kb_61, kb_75, kb_104, kb_7, kb_8, kb_9, kb_10, kb_12, kb_16, kb_20, kb_21, kb_30, kb_32, kb_40, kb_48, kb_50, kb_57, kb_59, kb_60, kb_63, kb_70, kb_78, kb_81, kb_82, kb_84, kb_97, kb_99, kb_100, kb_101, kb_119, kb_120, kb_122, ki_m1, ki_0, ki_1, ki_2, ki_3, ki_4, ki_5, ki_6, ki_7, ki_8, ki_9, ki_10, ki_11, ki_12, ki_13, ki_14, ki_15, ki_16, ki_17, ki_18, ki_19, ki_20, ki_21, ki_22, ki_23, ki_24, ki_25, ki_26, ki_27, ki_28, ki_29, ki_30, ki_31, ki_32, ki_33, ki_34, ki_35, ki_36, ki_37, ki_38, ki_39, ki_40, ki_41, ki_42, ki_43, ki_44, ki_45, ki_46, ki_47, ki_48, ki_49, ki_50, ki_51, ki_52, ki_53, ki_54, ki_55, ki_56, ki_57, ki_58, ki_59, ki_60, ki_61, ki_62, ki_63, ks_m2000, ks_m1006, ks_m1005, ks_m1004, ks_m1003, ks_m1002, ks_m1000, ks_200, ks_201, ks_300, ks_720, ks_9000, ks_10000, ks_250, ks_255, ks_256, ks_320, ks_660, ks_999, ks_1000, ks_9999, ks_12345, ne_2, ne_10, kc_0, kc_1, kf_0, kf_1, kf_2, kf_3, t_0, t_40, t_41, t_42, t_43, t_44, t_45, t_46, t_47, r_0_0, r_0_1, r_0_2, r_0_4, r_0_5, r_0_6, r_0_7, r_40_0, r_40_5, r_44_0, r_44_1, t_1, t_14, t_27, t_2, t_15, t_28, t_64, Nat.reduceEqDiff, ne_eq, not_false_eq_true, false_implies, true_implies, implies_true, Nat.reduceAdd, Nat.reduceLeDiff, Nat.reduceLT, Nat.reduceMul, or_true, true_or, if_true, if_false, not_true_eq_false, and_self, bF, Nat.reduceBEq, Bool.false_and, Bool.and_false, Bool.or_self, Bool.or_false, Bool.false_or, Bool.false_eq_true, Int.reduceAdd, Bool.and_self, Bool.true_and, Bool.and_true, beq_self_eq_true, List.drop, gL, sL, sL2, kilL, pad, slotsN, Value.category, List.length, List.head?, Option.map_some, Option.toList, List.nil_append, List.cons_append, lift_e, retOK, and_true, true_and, RtM_z, List.length_cons, List.length_nil, tE hb, hc', lpT10 hn]
    refine hK h' (est_ext (fun k => ?_) (fun t => ?_) (fun j k => ?_)) hf
    · show (if k < 5 then gI h' b k else 0) = if k < 5 then gI h b2 k else 0
      by_cases q : k < 5
      · rw [if_pos q, if_pos q, p1 k q]
      · rw [if_neg q, if_neg q]
    · show (if t < 8 then gI h' (b + 1) t else 0) = if t < 8 then gI h (b2 + 1) t else 0
      by_cases q : t < 8
      · rw [if_pos q, if_pos q, p2 t q]
      · rw [if_neg q, if_neg q]
    · show (if j < (gI h' b 4).toNatClampNeg ∧ k < 7 then gI h' (b + 3 + j) k else 0) = if j < (gI h b2 4).toNatClampNeg ∧ k < 7 then gI h (b2 + 3 + j) k else 0
      rw [p1 4 (by omega)]
      by_cases q : j < (gI h b2 4).toNatClampNeg ∧ k < 7
      · rw [if_pos q, if_pos q, p3 j k (by rw [est_n]; exact q.1) q.2]
      · rw [if_neg q, if_neg q]
  · have hi10 : i < 10 := by omega
    have hc' : gI h' b 4 = nI (cnt (est h b2)) := by rw [p1 4 (by omega), hc]
    refine hJ 57 _ _ _ _ ?_
    simp only [b_X0_copyFrom_57, goF_s, jmp_n, jmp_c, L_X0_copyFrom_0, L_X0_copyFrom_57, L_X0_copyFrom_86, a_X0_copyFrom_57, a_X0_copyFrom_86, g_nop, g_iconst, g_bipush, g_iload_n, g_aload_n, g_istore_n, g_iinc, g_ic_eq, g_ic_ne, g_ic_lt, g_ic_ge, g_ic_gt, g_ic_le, g_goto, g_getfield, g_putfield, g_aaload, g_invokevirtual, g_invokestatic, g_return_, pI1, pL1, pII, pLL, pLI, pR1, pIR, pIIR, pLIR, pRIR, pRR, pCP, pV1, pV2, pV3, vI, vL, vR, popN, eSt, br1, gtF, ptF, ldK, cV, cI, cS, swJ, capO, S_X1_copyFrom, P_X1_copyFrom, capO_z, if00, if10, rv_s, kb_6, kb_11, kb_13, kb_15, kb_17, kb_18, kb_19, kb_23, kb_24, kb_25, kb_26, kb_29, kb_31, kb_35, kb_37, kb_41, kb_43, kb_44, kb_61, kb_75, kb_104, kb_7, kb_8, kb_9, kb_10, kb_12, kb_16, kb_20, kb_21, kb_30, kb_32, kb_40, kb_48, kb_50, kb_57, kb_59, kb_60, kb_63, kb_70, kb_78, kb_81, kb_82, kb_84, kb_97, kb_99, kb_100, kb_101, kb_119, kb_120, kb_122, ki_m1, ki_0, ki_1, ki_2, ki_3, ki_4, ki_5, ki_6, ki_7, ki_8, ki_9, ki_10, ki_11, ki_12, ki_13, ki_14, ki_15, ki_16, ki_17, ki_18, ki_19, ki_20, ki_21, ki_22, ki_23, ki_24, ki_25, ki_26, ki_27, ki_28, ki_29, ki_30, ki_31, ki_32, ki_33, ki_34, ki_35, ki_36, ki_37, ki_38, ki_39, ki_40, ki_41, ki_42, ki_43, ki_44, ki_45, ki_46, ki_47, ki_48, ki_49, ki_50, ki_51, ki_52, ki_53, ki_54, ki_55, ki_56, ki_57, ki_58, ki_59, ki_60, ki_61, ki_62, ki_63, ks_m2000, ks_m1006, ks_m1005, ks_m1004, ks_m1003, ks_m1002, ks_m1000, ks_200, ks_201, ks_300, ks_720, ks_9000, ks_10000, ks_250, ks_255, ks_256, ks_320, ks_660, ks_999, ks_1000, ks_9999, ks_12345, ne_2, ne_10, kc_0, kc_1, kf_0, kf_1, kf_2, kf_3, t_0, t_40, t_41, t_42, t_43, t_44, t_45, t_46, t_47, r_0_0, r_0_1, r_0_2, r_0_4, r_0_5, r_0_6, r_0_7, r_40_0, r_40_5, r_44_0, r_44_1, t_1, t_14, t_27, t_2, t_15, t_28, t_64, Nat.reduceEqDiff, ne_eq, not_false_eq_true, false_implies, true_implies, implies_true, Nat.reduceAdd, Nat.reduceLeDiff, Nat.reduceLT, Nat.reduceMul, or_true, true_or, if_true, if_false, not_true_eq_false, and_self, bF, Nat.reduceBEq, Bool.false_and, Bool.and_false, Bool.or_self, Bool.or_false, Bool.false_or, Bool.false_eq_true, Int.reduceAdd, Bool.and_self, Bool.true_and, Bool.and_true, beq_self_eq_true, List.drop, gL, sL, sL2, kilL, pad, slotsN, Value.category, List.length, List.head?, Option.map_some, Option.toList, List.nil_append, List.cons_append, lift_e, retOK, and_true, true_and, RtM_z, List.length_cons, List.length_nil, tE hb, tE hb2, hc', lpF10 hi hn, tE2 hb, tE2 hb2, rE6 hb, rE6 hb2, nI_10 hi10, rEH hb hi10, rEH hb2 hi10, tEH hb hi10, tEH hb2 hi10, vp10 hi10, nI_1]
    refine ⟨neH hd i i hi10 hi10, ih _ (fun k hk => ?_) (fun t ht => ?_) (fun j k hj hk => ?_) (frE_f (frE_f (frE_f (frE_f (frE_f (frE_f (frE_f hf hi10) hi10) hi10) hi10) hi10) hi10) hi10)⟩
    · simp only [gF_s]
      exact p1 k hk
    · have e2 : ∀ k', ¬ (b + 1 = b + 3 + i ∧ t = k') := fun k' => neJ b i t k'
      simp only [gI_pI, if_neg (e2 _)]
      exact p2 t ht
    · have e3 : ∀ k, gI h' (b2 + 3 + i) k = gI h (b2 + 3 + i) k := fun k => hf.1 _ _ (by omega)
      simp only [gI_pI, e3]
      by_cases q : j = i
      · subst q
        rcases (show k = 0 ∨ k = 1 ∨ k = 2 ∨ k = 3 ∨ k = 4 ∨ k = 5 ∨ k = 6 by omega) with rfl | rfl | rfl | rfl | rfl | rfl | rfl <;> simp
      · have e4 : ∀ k', ¬ (b + 3 + j = b + 3 + i ∧ k = k') := fun k' => neK b i j k k' q
        simp only [if_neg (e4 _)]
        exact p3 j k (by omega) hk
  · intro k hk
    rw [gI_rowI2, if_neg (by omega)]
    rcases (show k = 0 ∨ k = 1 ∨ k = 2 ∨ k = 3 ∨ k = 4 by omega) with rfl | rfl | rfl | rfl | rfl <;> simp [gS_s]
  · intro t ht
    rw [gI_rowI2, if_pos rfl]
    have e2 : ∀ k', ¬ (b2 + 1 = b ∧ t = k') := fun k' => neL hd t k'
    have e5 : (Int32.toNatClampNeg 8) = 8 := by decide
    have e6 : (Int32.toNatClampNeg 0) = 0 := by decide
    simp only [va_cpy, e5, e6, gI_pI, Nat.zero_le, Nat.zero_add, Nat.sub_zero, Nat.add_zero, true_and, if_pos ht, if_neg (e2 _)]
  · exact frE_row (frE_s (frE_s (frE_s (frE_s (frE_s (frE_rf b h)))))) (by omega)
