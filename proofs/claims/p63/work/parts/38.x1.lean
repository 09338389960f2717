variable {nn : Nat}
/-! ===== the class's calls that only look at what there is ===== -/
def P_X5_part : Sp0T := fun as h K => match as with
  | [.ref x, .int i] => x = 0 ∧ XP h (fun G => g_part G i) K
  | _ => False
def S_X5_part : SpT := lift P_X5_part
def L_X5_part_26 : List Item := (26, .ireturn, [], nS) :: []
def L_X5_part_19 : List Item := (19, .aload_n 0, [], nS) :: (20, .sipush (-1002), [], nS) :: (23, .invokevirtual 55, [1, 5, 0, 0], S_X5_refuse) :: L_X5_part_26
def L_X5_part_0 : List Item := (0, .aload_n 0, [], nS) :: (1, .iload_n 1, [], nS) :: (2, .invokevirtual 114, [1, 5, 0, 0], S_X5_isHeir) :: (5, .ifCond .eq 14, [19], nS) :: (8, .aload_n 0, [], nS) :: (9, .getfield 10, [5, 0, 1], nS) :: (12, .iload_n 1, [], nS) :: (13, .invokevirtual 239, [1, 0, 0, 0], S_X0_partOf) :: (16, .goto 10, [26], nS) :: L_X5_part_19
def L_X5_part : List Item := L_X5_part_0
theorem ok_X5_part : okB cX5_part L_X5_part = true := by decide +kernel
theorem lk_X5_part (l : Launch) : LKs l RX5 3 false L_X5_part := ⟨trivial, trivial, ⟨_, _, _, _, _, _, _, _, _, rfl, c_X5_isHeir l, Or.inl ⟨by decide, yv_X5_isHeir⟩, by decide, gT_of (List.mem_of_getElem? (i := 266) (by decide +kernel)) rfl⟩, trivial, trivial, ⟨_, _, _, rfl, ⟨(RX5, TX5, 8), rfl, by decide, gT_of (List.mem_of_getElem? (i := 191) (by decide +kernel)) rfl⟩, rfl⟩, trivial, ⟨_, _, _, _, _, _, _, _, _, rfl, c_X0_partOf l, Or.inl ⟨by decide, yv_X0_partOf⟩, by decide, gT_of (List.mem_of_getElem? (i := 597) (by decide +kernel)) rfl⟩, trivial, trivial, trivial, ⟨_, _, _, _, _, _, _, _, _, rfl, c_X5_refuse l, Or.inl ⟨by decide, yv_X5_refuse⟩, by decide, gT_of (List.mem_of_getElem? (i := 226) (by decide +kernel)) rfl⟩, trivial, trivial⟩
theorem b_X5_part_0 : atL L_X5_part 0 = L_X5_part_0 := rfl
theorem b_X5_part_19 : atL L_X5_part 19 = L_X5_part_19 := rfl
theorem b_X5_part_26 : atL L_X5_part 26 = L_X5_part_26 := rfl
theorem a_X5_part_19 : afw L_X5_part [] 19 = L_X5_part_19 := rfl
theorem a_X5_part_26 : afw L_X5_part [] 26 = L_X5_part_26 := rfl
theorem yv_X5_part : YV yX5_part cX5_part 2 (some .int) 1 5 := ⟨⟨gT_of (List.mem_of_getElem? (i := 596) (by decide +kernel)) rfl, gT_of (List.mem_of_getElem? (i := 26) (by decide +kernel)) rfl, ⟨by decide, by decide⟩, by decide +kernel, by decide⟩, gT_of (List.mem_of_getElem? (i := 594) (by decide +kernel)) rfl, gT_of (List.mem_of_getElem? (i := 595) (by decide +kernel)) rfl, rfl⟩
theorem u_X5_part_0 : L_X5_part_0 = (0, .aload_n 0, [], nS) :: (1, .iload_n 1, [], nS) :: (2, .invokevirtual 114, [1, 5, 0, 0], S_X5_isHeir) :: (5, .ifCond .eq 14, [19], nS) :: (8, .aload_n 0, [], nS) :: (9, .getfield 10, [5, 0, 1], nS) :: (12, .iload_n 1, [], nS) :: (13, .invokevirtual 239, [1, 0, 0, 0], S_X0_partOf) :: (16, .goto 10, [26], nS) :: L_X5_part_19 := nr rfl
theorem u_X5_part_19 : L_X5_part_19 = (19, .aload_n 0, [], nS) :: (20, .sipush (-1002), [], nS) :: (23, .invokevirtual 55, [1, 5, 0, 0], S_X5_refuse) :: L_X5_part_26 := nr rfl
theorem u_X5_part_26 : L_X5_part_26 = (26, .ireturn, [], nS) :: [] := nr rfl
theorem z_X5_part_0 : atL L_X5_part 0 = L_X5_part_0 := nr rfl
theorem z_X5_part_19 : atL L_X5_part 19 = L_X5_part_19 := nr rfl
theorem z_X5_part_26 : atL L_X5_part 26 = L_X5_part_26 := nr rfl
theorem j_X5_part_19 {G : List Item → SpS → List Value → List Value → AH → Prop} {J : Nat → SpS → List Value → List Value → AH → Prop} {S : SpS} {lv st : List Value} {h : AH} : jmp G J (afw L_X5_part [] 19) 19 S lv st h = G L_X5_part_19 S lv st h := nr rfl
theorem j_X5_part_26 {G : List Item → SpS → List Value → List Value → AH → Prop} {J : Nat → SpS → List Value → List Value → AH → Prop} {S : SpS} {lv st : List Value} {h : AH} : jmp G J (afw L_X5_part [] 26) 26 S lv st h = G L_X5_part_26 S lv st h := nr rfl
theorem e_X5_part {x : Addr} {i : Int32} {h : AH} {K2 : Option Value → SpS → AH → Prop} : S_X5_part (SHn nn) [.ref x, .int i] h K2 = (fun (K : Option Value → AH → Prop) => x = 0 ∧ XP h (fun G => g_part G i) K) (fun v h' => K2 v (SHn nn) h') := (lift_e P_X5_part [.ref x, .int i] h K2).trans (nr rfl)
set_option maxRecDepth 100000 in
set_option maxHeartbeats 4000000 in
theorem c_X5_part (l : Launch) : Ct l yX5_part cX5_part 2 (some .int) 3 0 0 S_X5_part := by
  refine Ct0_mk L_X5_part [] (by decide +kernel) (by decide) ok_X5_part (lk_X5_part l) ?_
  intro nn as h K hP
  match as, hP with
  | [.ref x, .int i], ⟨hx, G, hG, hI, hK⟩ =>
  refine ⟨by simp [slotsN, Value.category], fun J hJ => ?_⟩
  subst hx
  dsimp only at hK
  have hE : est h 1 = vE G := hG.1
  have ho := okG_ok hI
  have ho2 := okG_t hI
  have hn : cnt (vE G) ≤ 10 := okG_n hI
  have c4 : gI h 1 4 = nI (cnt (vE G)) := by rw [← hE]; exact est_c (hE ▸ ho)
  by_cases hh : isH G i
  · simp only [g_part, if_pos hh] at hK
    obtain ⟨j, hj, rfl⟩ := heir_of hn hh
    refine hJ 0 _ _ _ _ ?_
    simp only [z_X5_part_0, u_X5_part_0, u_X5_part_19, u_X5_part_26, j_X5_part_19, j_X5_part_26, ev_aload_n0, ev_iload_n1, ev_callV1, ev_if_eq, ev_getfR, ev_goto, ev_sipush, ev_iret, ro_i, ro_z, ↓e_X0_partOf, ↓e_X5_isHeir, ↓e_X5_refuse, capO_z, kb_6, kb_11, kb_13, kb_15, kb_17, kb_18, kb_19, kb_23, kb_24, kb_25, kb_26, kb_29, kb_31, kb_35, kb_37, kb_41, kb_43, kb_44, kb_61, kb_75, kb_104, kb_7, kb_8, kb_9, kb_10, kb_12, kb_16, kb_20, kb_21, kb_30, kb_32, kb_40, kb_48, kb_50, kb_57, kb_59, kb_60, kb_63, kb_70, kb_78, kb_81, kb_82, kb_84, kb_97, kb_99, kb_100, kb_101, kb_119, kb_120, kb_122, ki_m1, ki_0, ki_1, ki_2, ki_3, ki_4, ki_5, ki_6, ki_7, ki_8, ki_9, ki_10, ki_11, ki_12, ki_13, ki_14, ki_15, ki_16, ki_17, ki_18, ki_19, ki_20, ki_21, ki_22, ki_23, ki_24, ki_25, ki_26, ki_27, ki_28, ki_29, ki_30, ki_31, ki_32, ki_33, ki_34, ki_35, ki_36, ki_37, ki_38, ki_39, ki_40, ki_41, ki_42, ki_43, ki_44, ki_45, ki_46, ki_47, ki_48, ki_49, ki_50, ki_51, ki_52, ki_53, ki_54, ki_55, ki_56, ki_57, ki_58, ki_59, ki_60, ki_61, ki_62, ki_63, ks_m2000, ks_m1006, ks_m1005, ks_m1004, ks_m1003, ks_m1002, ks_m1000, ks_200, ks_201, ks_300, ks_720, ks_9000, ks_10000, ks_250, ks_255, ks_256, ks_320, ks_660, ks_999, ks_1000, ks_9999, ks_12345, ne_2, ne_10, t_0, t_40, t_41, t_42, t_43, t_44, t_45, t_46, t_47, r_0_0, r_0_1, r_0_2, r_0_4, r_0_5, r_0_6, r_0_7, r_40_0, r_40_5, r_44_0, r_44_1, t_1, t_14, t_27, t_2, t_15, t_28, t_64, Nat.reduceEqDiff, ne_eq, not_false_eq_true, false_implies, true_implies, implies_true, Nat.reduceAdd, Nat.reduceLeDiff, Nat.reduceLT, Nat.reduceMul, or_true, true_or, if_true, if_false, not_true_eq_false, and_self, bF, Nat.reduceBEq, Bool.false_and, Bool.and_false, Bool.or_self, Bool.or_false, Bool.false_or, Bool.false_eq_true, Int.reduceAdd, Bool.and_self, Bool.true_and, Bool.and_true, beq_self_eq_true, not_not_, i10_, i01_, List.length_nil, List.length_cons, true_and, and_true, false_and, and_false, kl_i, kl_a, kl_n, kl_l, tl_s, tl_n, rv_S, pd_0, pd_e, pd_r, pd_i, pd_l, c4, b2i_t hh, hE, isE1t]
    exact ⟨ho, ho2, j, hj, rfl, hK h hG (frX_rf h)⟩
  · simp only [g_part, if_neg hh, noG] at hK
    refine hJ 0 _ _ _ _ ?_
    simp only [z_X5_part_0, u_X5_part_0, u_X5_part_19, u_X5_part_26, j_X5_part_19, j_X5_part_26, ev_aload_n0, ev_iload_n1, ev_callV1, ev_if_eq, ev_getfR, ev_goto, ev_sipush, ev_iret, ro_i, ro_z, ↓e_X0_partOf, ↓e_X5_isHeir, ↓e_X5_refuse, capO_z, kb_6, kb_11, kb_13, kb_15, kb_17, kb_18, kb_19, kb_23, kb_24, kb_25, kb_26, kb_29, kb_31, kb_35, kb_37, kb_41, kb_43, kb_44, kb_61, kb_75, kb_104, kb_7, kb_8, kb_9, kb_10, kb_12, kb_16, kb_20, kb_21, kb_30, kb_32, kb_40, kb_48, kb_50, kb_57, kb_59, kb_60, kb_63, kb_70, kb_78, kb_81, kb_82, kb_84, kb_97, kb_99, kb_100, kb_101, kb_119, kb_120, kb_122, ki_m1, ki_0, ki_1, ki_2, ki_3, ki_4, ki_5, ki_6, ki_7, ki_8, ki_9, ki_10, ki_11, ki_12, ki_13, ki_14, ki_15, ki_16, ki_17, ki_18, ki_19, ki_20, ki_21, ki_22, ki_23, ki_24, ki_25, ki_26, ki_27, ki_28, ki_29, ki_30, ki_31, ki_32, ki_33, ki_34, ki_35, ki_36, ki_37, ki_38, ki_39, ki_40, ki_41, ki_42, ki_43, ki_44, ki_45, ki_46, ki_47, ki_48, ki_49, ki_50, ki_51, ki_52, ki_53, ki_54, ki_55, ki_56, ki_57, ki_58, ki_59, ki_60, ki_61, ki_62, ki_63, ks_m2000, ks_m1006, ks_m1005, ks_m1004, ks_m1003, ks_m1002, ks_m1000, ks_200, ks_201, ks_300, ks_720, ks_9000, ks_10000, ks_250, ks_255, ks_256, ks_320, ks_660, ks_999, ks_1000, ks_9999, ks_12345, ne_2, ne_10, t_0, t_40, t_41, t_42, t_43, t_44, t_45, t_46, t_47, r_0_0, r_0_1, r_0_2, r_0_4, r_0_5, r_0_6, r_0_7, r_40_0, r_40_5, r_44_0, r_44_1, t_1, t_14, t_27, t_2, t_15, t_28, t_64, Nat.reduceEqDiff, ne_eq, not_false_eq_true, false_implies, true_implies, implies_true, Nat.reduceAdd, Nat.reduceLeDiff, Nat.reduceLT, Nat.reduceMul, or_true, true_or, if_true, if_false, not_true_eq_false, and_self, bF, Nat.reduceBEq, Bool.false_and, Bool.and_false, Bool.or_self, Bool.or_false, Bool.false_or, Bool.false_eq_true, Int.reduceAdd, Bool.and_self, Bool.true_and, Bool.and_true, beq_self_eq_true, not_not_, i10_, i01_, List.length_nil, List.length_cons, true_and, and_true, false_and, and_false, kl_i, kl_a, kl_n, kl_l, tl_s, tl_n, rv_S, pd_0, pd_e, pd_r, pd_i, pd_l, c4, b2i_f hh, ic_2]
    exact hK _ (simX_ref hI hG kc2) (frX_ref h _)
def P_X5_line : Sp0T := fun as h K => match as with
  | [.ref x, .int i] => x = 0 ∧ XP h (fun G => g_line G i) K
  | _ => False
def S_X5_line : SpT := lift P_X5_line
def L_X5_line_26 : List Item := (26, .ireturn, [], nS) :: []
def L_X5_line_19 : List Item := (19, .aload_n 0, [], nS) :: (20, .sipush (-1002), [], nS) :: (23, .invokevirtual 55, [1, 5, 0, 0], S_X5_refuse) :: L_X5_line_26
def L_X5_line_0 : List Item := (0, .aload_n 0, [], nS) :: (1, .iload_n 1, [], nS) :: (2, .invokevirtual 114, [1, 5, 0, 0], S_X5_isHeir) :: (5, .ifCond .eq 14, [19], nS) :: (8, .aload_n 0, [], nS) :: (9, .getfield 10, [5, 0, 1], nS) :: (12, .iload_n 1, [], nS) :: (13, .invokevirtual 242, [1, 0, 0, 0], S_X0_generation) :: (16, .goto 10, [26], nS) :: L_X5_line_19
def L_X5_line : List Item := L_X5_line_0
theorem ok_X5_line : okB cX5_line L_X5_line = true := by decide +kernel
theorem lk_X5_line (l : Launch) : LKs l RX5 3 false L_X5_line := ⟨trivial, trivial, ⟨_, _, _, _, _, _, _, _, _, rfl, c_X5_isHeir l, Or.inl ⟨by decide, yv_X5_isHeir⟩, by decide, gT_of (List.mem_of_getElem? (i := 266) (by decide +kernel)) rfl⟩, trivial, trivial, ⟨_, _, _, rfl, ⟨(RX5, TX5, 8), rfl, by decide, gT_of (List.mem_of_getElem? (i := 191) (by decide +kernel)) rfl⟩, rfl⟩, trivial, ⟨_, _, _, _, _, _, _, _, _, rfl, c_X0_generation l, Or.inl ⟨by decide, yv_X0_generation⟩, by decide, gT_of (List.mem_of_getElem? (i := 613) (by decide +kernel)) rfl⟩, trivial, trivial, trivial, ⟨_, _, _, _, _, _, _, _, _, rfl, c_X5_refuse l, Or.inl ⟨by decide, yv_X5_refuse⟩, by decide, gT_of (List.mem_of_getElem? (i := 226) (by decide +kernel)) rfl⟩, trivial, trivial⟩
theorem b_X5_line_0 : atL L_X5_line 0 = L_X5_line_0 := rfl
theorem b_X5_line_19 : atL L_X5_line 19 = L_X5_line_19 := rfl
theorem b_X5_line_26 : atL L_X5_line 26 = L_X5_line_26 := rfl
theorem a_X5_line_19 : afw L_X5_line [] 19 = L_X5_line_19 := rfl
theorem a_X5_line_26 : afw L_X5_line [] 26 = L_X5_line_26 := rfl
theorem yv_X5_line : YV yX5_line cX5_line 2 (some .int) 1 5 := ⟨⟨gT_of (List.mem_of_getElem? (i := 612) (by decide +kernel)) rfl, gT_of (List.mem_of_getElem? (i := 26) (by decide +kernel)) rfl, ⟨by decide, by decide⟩, by decide +kernel, by decide⟩, gT_of (List.mem_of_getElem? (i := 610) (by decide +kernel)) rfl, gT_of (List.mem_of_getElem? (i := 611) (by decide +kernel)) rfl, rfl⟩
theorem u_X5_line_0 : L_X5_line_0 = (0, .aload_n 0, [], nS) :: (1, .iload_n 1, [], nS) :: (2, .invokevirtual 114, [1, 5, 0, 0], S_X5_isHeir) :: (5, .ifCond .eq 14, [19], nS) :: (8, .aload_n 0, [], nS) :: (9, .getfield 10, [5, 0, 1], nS) :: (12, .iload_n 1, [], nS) :: (13, .invokevirtual 242, [1, 0, 0, 0], S_X0_generation) :: (16, .goto 10, [26], nS) :: L_X5_line_19 := nr rfl
theorem u_X5_line_19 : L_X5_line_19 = (19, .aload_n 0, [], nS) :: (20, .sipush (-1002), [], nS) :: (23, .invokevirtual 55, [1, 5, 0, 0], S_X5_refuse) :: L_X5_line_26 := nr rfl
theorem u_X5_line_26 : L_X5_line_26 = (26, .ireturn, [], nS) :: [] := nr rfl
theorem z_X5_line_0 : atL L_X5_line 0 = L_X5_line_0 := nr rfl
theorem z_X5_line_19 : atL L_X5_line 19 = L_X5_line_19 := nr rfl
theorem z_X5_line_26 : atL L_X5_line 26 = L_X5_line_26 := nr rfl
theorem j_X5_line_19 {G : List Item → SpS → List Value → List Value → AH → Prop} {J : Nat → SpS → List Value → List Value → AH → Prop} {S : SpS} {lv st : List Value} {h : AH} : jmp G J (afw L_X5_line [] 19) 19 S lv st h = G L_X5_line_19 S lv st h := nr rfl
theorem j_X5_line_26 {G : List Item → SpS → List Value → List Value → AH → Prop} {J : Nat → SpS → List Value → List Value → AH → Prop} {S : SpS} {lv st : List Value} {h : AH} : jmp G J (afw L_X5_line [] 26) 26 S lv st h = G L_X5_line_26 S lv st h := nr rfl
theorem e_X5_line {x : Addr} {i : Int32} {h : AH} {K2 : Option Value → SpS → AH → Prop} : S_X5_line (SHn nn) [.ref x, .int i] h K2 = (fun (K : Option Value → AH → Prop) => x = 0 ∧ XP h (fun G => g_line G i) K) (fun v h' => K2 v (SHn nn) h') := (lift_e P_X5_line [.ref x, .int i] h K2).trans (nr rfl)
set_option maxRecDepth 100000 in
set_option maxHeartbeats 4000000 in
theorem c_X5_line (l : Launch) : Ct l yX5_line cX5_line 2 (some .int) 3 0 0 S_X5_line := by
  refine Ct0_mk L_X5_line [] (by decide +kernel) (by decide) ok_X5_line (lk_X5_line l) ?_
  intro nn as h K hP
  match as, hP with
  | [.ref x, .int i], ⟨hx, G, hG, hI, hK⟩ =>
  refine ⟨by simp [slotsN, Value.category], fun J hJ => ?_⟩
  subst hx
  dsimp only at hK
  have hE : est h 1 = vE G := hG.1
  have ho := okG_ok hI
  have ho2 := okG_t hI
  have hn : cnt (vE G) ≤ 10 := okG_n hI
  have c4 : gI h 1 4 = nI (cnt (vE G)) := by rw [← hE]; exact est_c (hE ▸ ho)
  by_cases hh : isH G i
  · simp only [g_line, if_pos hh] at hK
    obtain ⟨j, hj, rfl⟩ := heir_of hn hh
    refine hJ 0 _ _ _ _ ?_
    simp only [z_X5_line_0, u_X5_line_0, u_X5_line_19, u_X5_line_26, j_X5_line_19, j_X5_line_26, ev_aload_n0, ev_iload_n1, ev_callV1, ev_if_eq, ev_getfR, ev_goto, ev_sipush, ev_iret, ro_i, ro_z, ↓e_X0_generation, ↓e_X5_isHeir, ↓e_X5_refuse, capO_z, kb_6, kb_11, kb_13, kb_15, kb_17, kb_18, kb_19, kb_23, kb_24, kb_25, kb_26, kb_29, kb_31, kb_35, kb_37, kb_41, kb_43, kb_44, kb_61, kb_75, kb_104, kb_7, kb_8, kb_9, kb_10, kb_12, kb_16, kb_20, kb_21, kb_30, kb_32, kb_40, kb_48, kb_50, kb_57, kb_59, kb_60, kb_63, kb_70, kb_78, kb_81, kb_82, kb_84, kb_97, kb_99, kb_100, kb_101, kb_119, kb_120, kb_122, ki_m1, ki_0, ki_1, ki_2, ki_3, ki_4, ki_5, ki_6, ki_7, ki_8, ki_9, ki_10, ki_11, ki_12, ki_13, ki_14, ki_15, ki_16, ki_17, ki_18, ki_19, ki_20, ki_21, ki_22, ki_23, ki_24, ki_25, ki_26, ki_27, ki_28, ki_29, ki_30, ki_31, ki_32, ki_33, ki_34, ki_35, ki_36, ki_37, ki_38, ki_39, ki_40, ki_41, ki_42, ki_43, ki_44, ki_45, ki_46, ki_47, ki_48, ki_49, ki_50, ki_51, ki_52, ki_53, ki_54, ki_55, ki_56, ki_57, ki_58, ki_59, ki_60, ki_61, ki_62, ki_63, ks_m2000, ks_m1006, ks_m1005, ks_m1004, ks_m1003, ks_m1002, ks_m1000, ks_200, ks_201, ks_300, ks_720, ks_9000, ks_10000, ks_250, ks_255, ks_256, ks_320, ks_660, ks_999, ks_1000, ks_9999, ks_12345, ne_2, ne_10, t_0, t_40, t_41, t_42, t_43, t_44, t_45, t_46, t_47, r_0_0, r_0_1, r_0_2, r_0_4, r_0_5, r_0_6, r_0_7, r_40_0, r_40_5, r_44_0, r_44_1, t_1, t_14, t_27, t_2, t_15, t_28, t_64, Nat.reduceEqDiff, ne_eq, not_false_eq_true, false_implies, true_implies, implies_true, Nat.reduceAdd, Nat.reduceLeDiff, Nat.reduceLT, Nat.reduceMul, or_true, true_or, if_true, if_false, not_true_eq_false, and_self, bF, Nat.reduceBEq, Bool.false_and, Bool.and_false, Bool.or_self, Bool.or_false, Bool.false_or, Bool.false_eq_true, Int.reduceAdd, Bool.and_self, Bool.true_and, Bool.and_true, beq_self_eq_true, not_not_, i10_, i01_, List.length_nil, List.length_cons, true_and, and_true, false_and, and_false, kl_i, kl_a, kl_n, kl_l, tl_s, tl_n, rv_S, pd_0, pd_e, pd_r, pd_i, pd_l, c4, b2i_t hh, hE, isE1t]
    rw [lineE, parE_n (show j < 10 by omega)] at hK
    exact ⟨ho, ho2, j, hj, rfl, hK h hG (frX_rf h)⟩
  · simp only [g_line, if_neg hh, noG] at hK
    refine hJ 0 _ _ _ _ ?_
    simp only [z_X5_line_0, u_X5_line_0, u_X5_line_19, u_X5_line_26, j_X5_line_19, j_X5_line_26, ev_aload_n0, ev_iload_n1, ev_callV1, ev_if_eq, ev_getfR, ev_goto, ev_sipush, ev_iret, ro_i, ro_z, ↓e_X0_generation, ↓e_X5_isHeir, ↓e_X5_refuse, capO_z, kb_6, kb_11, kb_13, kb_15, kb_17, kb_18, kb_19, kb_23, kb_24, kb_25, kb_26, kb_29, kb_31, kb_35, kb_37, kb_41, kb_43, kb_44, kb_61, kb_75, kb_104, kb_7, kb_8, kb_9, kb_10, kb_12, kb_16, kb_20, kb_21, kb_30, kb_32, kb_40, kb_48, kb_50, kb_57, kb_59, kb_60, kb_63, kb_70, kb_78, kb_81, kb_82, kb_84, kb_97, kb_99, kb_100, kb_101, kb_119, kb_120, kb_122, ki_m1, ki_0, ki_1, ki_2, ki_3, ki_4, ki_5, ki_6, ki_7, ki_8, ki_9, ki_10, ki_11, ki_12, ki_13, ki_14, ki_15, ki_16, ki_17, ki_18, ki_19, ki_20, ki_21, ki_22, ki_23, ki_24, ki_25, ki_26, ki_27, ki_28, ki_29, ki_30, ki_31, ki_32, ki_33, ki_34, ki_35, ki_36, ki_37, ki_38, ki_39, ki_40, ki_41, ki_42, ki_43, ki_44, ki_45, ki_46, ki_47, ki_48, ki_49, ki_50, ki_51, ki_52, ki_53, ki_54, ki_55, ki_56, ki_57, ki_58, ki_59, ki_60, ki_61, ki_62, ki_63, ks_m2000, ks_m1006, ks_m1005, ks_m1004, ks_m1003, ks_m1002, ks_m1000, ks_200, ks_201, ks_300, ks_720, ks_9000, ks_10000, ks_250, ks_255, ks_256, ks_320, ks_660, ks_999, ks_1000, ks_9999, ks_12345, ne_2, ne_10, t_0, t_40, t_41, t_42, t_43, t_44, t_45, t_46, t_47, r_0_0, r_0_1, r_0_2, r_0_4, r_0_5, r_0_6, r_0_7, r_40_0, r_40_5, r_44_0, r_44_1, t_1, t_14, t_27, t_2, t_15, t_28, t_64, Nat.reduceEqDiff, ne_eq, not_false_eq_true, false_implies, true_implies, implies_true, Nat.reduceAdd, Nat.reduceLeDiff, Nat.reduceLT, Nat.reduceMul, or_true, true_or, if_true, if_false, not_true_eq_false, and_self, bF, Nat.reduceBEq, Bool.false_and, Bool.and_false, Bool.or_self, Bool.or_false, Bool.false_or, Bool.false_eq_true, Int.reduceAdd, Bool.and_self, Bool.true_and, Bool.and_true, beq_self_eq_true, not_not_, i10_, i01_, List.length_nil, List.length_cons, true_and, and_true, false_and, and_false, kl_i, kl_a, kl_n, kl_l, tl_s, tl_n, rv_S, pd_0, pd_e, pd_r, pd_i, pd_l, c4, b2i_f hh, ic_2]
    exact hK _ (simX_ref hI hG kc2) (frX_ref h _)
def P_X5_under : Sp0T := fun as h K => match as with
  | [.ref x, .int i] => x = 0 ∧ XP h (fun G => g_under G i) K
  | _ => False
def S_X5_under : SpT := lift P_X5_under
def L_X5_under_26 : List Item := (26, .ireturn, [], nS) :: []
def L_X5_under_19 : List Item := (19, .aload_n 0, [], nS) :: (20, .sipush (-1002), [], nS) :: (23, .invokevirtual 55, [1, 5, 0, 0], S_X5_refuse) :: L_X5_under_26
def L_X5_under_0 : List Item := (0, .aload_n 0, [], nS) :: (1, .iload_n 1, [], nS) :: (2, .invokevirtual 114, [1, 5, 0, 0], S_X5_isHeir) :: (5, .ifCond .eq 14, [19], nS) :: (8, .aload_n 0, [], nS) :: (9, .getfield 10, [5, 0, 1], nS) :: (12, .iload_n 1, [], nS) :: (13, .invokevirtual 248, [1, 0, 0, 0], S_X0_allUnder) :: (16, .goto 10, [26], nS) :: L_X5_under_19
def L_X5_under : List Item := L_X5_under_0
theorem ok_X5_under : okB cX5_under L_X5_under = true := by decide +kernel
theorem lk_X5_under (l : Launch) : LKs l RX5 3 false L_X5_under := ⟨trivial, trivial, ⟨_, _, _, _, _, _, _, _, _, rfl, c_X5_isHeir l, Or.inl ⟨by decide, yv_X5_isHeir⟩, by decide, gT_of (List.mem_of_getElem? (i := 266) (by decide +kernel)) rfl⟩, trivial, trivial, ⟨_, _, _, rfl, ⟨(RX5, TX5, 8), rfl, by decide, gT_of (List.mem_of_getElem? (i := 191) (by decide +kernel)) rfl⟩, rfl⟩, trivial, ⟨_, _, _, _, _, _, _, _, _, rfl, c_X0_allUnder l, Or.inl ⟨by decide, yv_X0_allUnder⟩, by decide, gT_of (List.mem_of_getElem? (i := 637) (by decide +kernel)) rfl⟩, trivial, trivial, trivial, ⟨_, _, _, _, _, _, _, _, _, rfl, c_X5_refuse l, Or.inl ⟨by decide, yv_X5_refuse⟩, by decide, gT_of (List.mem_of_getElem? (i := 226) (by decide +kernel)) rfl⟩, trivial, trivial⟩
theorem b_X5_under_0 : atL L_X5_under 0 = L_X5_under_0 := rfl
theorem b_X5_under_19 : atL L_X5_under 19 = L_X5_under_19 := rfl
theorem b_X5_under_26 : atL L_X5_under 26 = L_X5_under_26 := rfl
theorem a_X5_under_19 : afw L_X5_under [] 19 = L_X5_under_19 := rfl
theorem a_X5_under_26 : afw L_X5_under [] 26 = L_X5_under_26 := rfl
theorem yv_X5_under : YV yX5_under cX5_under 2 (some .int) 1 5 := ⟨⟨gT_of (List.mem_of_getElem? (i := 636) (by decide +kernel)) rfl, gT_of (List.mem_of_getElem? (i := 26) (by decide +kernel)) rfl, ⟨by decide, by decide⟩, by decide +kernel, by decide⟩, gT_of (List.mem_of_getElem? (i := 634) (by decide +kernel)) rfl, gT_of (List.mem_of_getElem? (i := 635) (by decide +kernel)) rfl, rfl⟩
theorem u_X5_under_0 : L_X5_under_0 = (0, .aload_n 0, [], nS) :: (1, .iload_n 1, [], nS) :: (2, .invokevirtual 114, [1, 5, 0, 0], S_X5_isHeir) :: (5, .ifCond .eq 14, [19], nS) :: (8, .aload_n 0, [], nS) :: (9, .getfield 10, [5, 0, 1], nS) :: (12, .iload_n 1, [], nS) :: (13, .invokevirtual 248, [1, 0, 0, 0], S_X0_allUnder) :: (16, .goto 10, [26], nS) :: L_X5_under_19 := nr rfl
theorem u_X5_under_19 : L_X5_under_19 = (19, .aload_n 0, [], nS) :: (20, .sipush (-1002), [], nS) :: (23, .invokevirtual 55, [1, 5, 0, 0], S_X5_refuse) :: L_X5_under_26 := nr rfl
theorem u_X5_under_26 : L_X5_under_26 = (26, .ireturn, [], nS) :: [] := nr rfl
theorem z_X5_under_0 : atL L_X5_under 0 = L_X5_under_0 := nr rfl
theorem z_X5_under_19 : atL L_X5_under 19 = L_X5_under_19 := nr rfl
theorem z_X5_under_26 : atL L_X5_under 26 = L_X5_under_26 := nr rfl
theorem j_X5_under_19 {G : List Item → SpS → List Value → List Value → AH → Prop} {J : Nat → SpS → List Value → List Value → AH → Prop} {S : SpS} {lv st : List Value} {h : AH} : jmp G J (afw L_X5_under [] 19) 19 S lv st h = G L_X5_under_19 S lv st h := nr rfl
theorem j_X5_under_26 {G : List Item → SpS → List Value → List Value → AH → Prop} {J : Nat → SpS → List Value → List Value → AH → Prop} {S : SpS} {lv st : List Value} {h : AH} : jmp G J (afw L_X5_under [] 26) 26 S lv st h = G L_X5_under_26 S lv st h := nr rfl
theorem e_X5_under {x : Addr} {i : Int32} {h : AH} {K2 : Option Value → SpS → AH → Prop} : S_X5_under (SHn nn) [.ref x, .int i] h K2 = (fun (K : Option Value → AH → Prop) => x = 0 ∧ XP h (fun G => g_under G i) K) (fun v h' => K2 v (SHn nn) h') := (lift_e P_X5_under [.ref x, .int i] h K2).trans (nr rfl)
set_option maxRecDepth 100000 in
set_option maxHeartbeats 4000000 in
theorem c_X5_under (l : Launch) : Ct l yX5_under cX5_under 2 (some .int) 3 0 0 S_X5_under := by
  refine Ct0_mk L_X5_under [] (by decide +kernel) (by decide) ok_X5_under (lk_X5_under l) ?_
  intro nn as h K hP
  match as, hP with
  | [.ref x, .int i], ⟨hx, G, hG, hI, hK⟩ =>
  refine ⟨by simp [slotsN, Value.category], fun J hJ => ?_⟩
  subst hx
  dsimp only at hK
  have hE : est h 1 = vE G := hG.1
  have ho := okG_ok hI
  have ho2 := okG_t hI
  have hn : cnt (vE G) ≤ 10 := okG_n hI
  have c4 : gI h 1 4 = nI (cnt (vE G)) := by rw [← hE]; exact est_c (hE ▸ ho)
  by_cases hh : isH G i
  · simp only [g_under, if_pos hh] at hK
    refine hJ 0 _ _ _ _ ?_
    simp only [z_X5_under_0, u_X5_under_0, u_X5_under_19, u_X5_under_26, j_X5_under_19, j_X5_under_26, ev_aload_n0, ev_iload_n1, ev_callV1, ev_if_eq, ev_getfR, ev_goto, ev_sipush, ev_iret, ro_i, ro_z, ↓e_X0_allUnder, ↓e_X5_isHeir, ↓e_X5_refuse, capO_z, kb_6, kb_11, kb_13, kb_15, kb_17, kb_18, kb_19, kb_23, kb_24, kb_25, kb_26, kb_29, kb_31, kb_35, kb_37, kb_41, kb_43, kb_44, kb_61, kb_75, kb_104, kb_7, kb_8, kb_9, kb_10, kb_12, kb_16, kb_20, kb_21, kb_30, kb_32, kb_40, kb_48, kb_50, kb_57, kb_59, kb_60, kb_63, kb_70, kb_78, kb_81, kb_82, kb_84, kb_97, kb_99, kb_100, kb_101, kb_119, kb_120, kb_122, ki_m1, ki_0, ki_1, ki_2, ki_3, ki_4, ki_5, ki_6, ki_7, ki_8, ki_9, ki_10, ki_11, ki_12, ki_13, ki_14, ki_15, ki_16, ki_17, ki_18, ki_19, ki_20, ki_21, ki_22, ki_23, ki_24, ki_25, ki_26, ki_27, ki_28, ki_29, ki_30, ki_31, ki_32, ki_33, ki_34, ki_35, ki_36, ki_37, ki_38, ki_39, ki_40, ki_41, ki_42, ki_43, ki_44, ki_45, ki_46, ki_47, ki_48, ki_49, ki_50, ki_51, ki_52, ki_53, ki_54, ki_55, ki_56, ki_57, ki_58, ki_59, ki_60, ki_61, ki_62, ki_63, ks_m2000, ks_m1006, ks_m1005, ks_m1004, ks_m1003, ks_m1002, ks_m1000, ks_200, ks_201, ks_300, ks_720, ks_9000, ks_10000, ks_250, ks_255, ks_256, ks_320, ks_660, ks_999, ks_1000, ks_9999, ks_12345, ne_2, ne_10, t_0, t_40, t_41, t_42, t_43, t_44, t_45, t_46, t_47, r_0_0, r_0_1, r_0_2, r_0_4, r_0_5, r_0_6, r_0_7, r_40_0, r_40_5, r_44_0, r_44_1, t_1, t_14, t_27, t_2, t_15, t_28, t_64, Nat.reduceEqDiff, ne_eq, not_false_eq_true, false_implies, true_implies, implies_true, Nat.reduceAdd, Nat.reduceLeDiff, Nat.reduceLT, Nat.reduceMul, or_true, true_or, if_true, if_false, not_true_eq_false, and_self, bF, Nat.reduceBEq, Bool.false_and, Bool.and_false, Bool.or_self, Bool.or_false, Bool.false_or, Bool.false_eq_true, Int.reduceAdd, Bool.and_self, Bool.true_and, Bool.and_true, beq_self_eq_true, not_not_, i10_, i01_, List.length_nil, List.length_cons, true_and, and_true, false_and, and_false, kl_i, kl_a, kl_n, kl_l, tl_s, tl_n, rv_S, pd_0, pd_e, pd_r, pd_i, pd_l, c4, b2i_t hh, hE, isE1t]
    exact ⟨ho, ho2, hK h hG (frX_rf h)⟩
  · simp only [g_under, if_neg hh, noG] at hK
    refine hJ 0 _ _ _ _ ?_
    simp only [z_X5_under_0, u_X5_under_0, u_X5_under_19, u_X5_under_26, j_X5_under_19, j_X5_under_26, ev_aload_n0, ev_iload_n1, ev_callV1, ev_if_eq, ev_getfR, ev_goto, ev_sipush, ev_iret, ro_i, ro_z, ↓e_X0_allUnder, ↓e_X5_isHeir, ↓e_X5_refuse, capO_z, kb_6, kb_11, kb_13, kb_15, kb_17, kb_18, kb_19, kb_23, kb_24, kb_25, kb_26, kb_29, kb_31, kb_35, kb_37, kb_41, kb_43, kb_44, kb_61, kb_75, kb_104, kb_7, kb_8, kb_9, kb_10, kb_12, kb_16, kb_20, kb_21, kb_30, kb_32, kb_40, kb_48, kb_50, kb_57, kb_59, kb_60, kb_63, kb_70, kb_78, kb_81, kb_82, kb_84, kb_97, kb_99, kb_100, kb_101, kb_119, kb_120, kb_122, ki_m1, ki_0, ki_1, ki_2, ki_3, ki_4, ki_5, ki_6, ki_7, ki_8, ki_9, ki_10, ki_11, ki_12, ki_13, ki_14, ki_15, ki_16, ki_17, ki_18, ki_19, ki_20, ki_21, ki_22, ki_23, ki_24, ki_25, ki_26, ki_27, ki_28, ki_29, ki_30, ki_31, ki_32, ki_33, ki_34, ki_35, ki_36, ki_37, ki_38, ki_39, ki_40, ki_41, ki_42, ki_43, ki_44, ki_45, ki_46, ki_47, ki_48, ki_49, ki_50, ki_51, ki_52, ki_53, ki_54, ki_55, ki_56, ki_57, ki_58, ki_59, ki_60, ki_61, ki_62, ki_63, ks_m2000, ks_m1006, ks_m1005, ks_m1004, ks_m1003, ks_m1002, ks_m1000, ks_200, ks_201, ks_300, ks_720, ks_9000, ks_10000, ks_250, ks_255, ks_256, ks_320, ks_660, ks_999, ks_1000, ks_9999, ks_12345, ne_2, ne_10, t_0, t_40, t_41, t_42, t_43, t_44, t_45, t_46, t_47, r_0_0, r_0_1, r_0_2, r_0_4, r_0_5, r_0_6, r_0_7, r_40_0, r_40_5, r_44_0, r_44_1, t_1, t_14, t_27, t_2, t_15, t_28, t_64, Nat.reduceEqDiff, ne_eq, not_false_eq_true, false_implies, true_implies, implies_true, Nat.reduceAdd, Nat.reduceLeDiff, Nat.reduceLT, Nat.reduceMul, or_true, true_or, if_true, if_false, not_true_eq_false, and_self, bF, Nat.reduceBEq, Bool.false_and, Bool.and_false, Bool.or_self, Bool.or_false, Bool.false_or, Bool.false_eq_true, Int.reduceAdd, Bool.and_self, Bool.true_and, Bool.and_true, beq_self_eq_true, not_not_, i10_, i01_, List.length_nil, List.length_cons, true_and, and_true, false_and, and_false, kl_i, kl_a, kl_n, kl_l, tl_s, tl_n, rv_S, pd_0, pd_e, pd_r, pd_i, pd_l, c4, b2i_f hh, ic_2]
    exact hK _ (simX_ref hI hG kc2) (frX_ref h _)
def P_X5_kin : Sp0T := fun as h K => match as with
  | [.ref x, .int i, .int j] => x = 0 ∧ XP h (fun G => g_kin G i j) K
  | _ => False
def S_X5_kin : SpT := lift P_X5_kin
def L_X5_kin_35 : List Item := (35, .ireturn, [], nS) :: []
def L_X5_kin_28 : List Item := (28, .aload_n 0, [], nS) :: (29, .sipush (-1002), [], nS) :: (32, .invokevirtual 55, [1, 5, 0, 0], S_X5_refuse) :: L_X5_kin_35
def L_X5_kin_0 : List Item := (0, .aload_n 0, [], nS) :: (1, .iload_n 1, [], nS) :: (2, .invokevirtual 114, [1, 5, 0, 0], S_X5_isHeir) :: (5, .ifCond .eq 23, [28], nS) :: (8, .aload_n 0, [], nS) :: (9, .iload_n 2, [], nS) :: (10, .invokevirtual 114, [1, 5, 0, 0], S_X5_isHeir) :: (13, .ifCond .eq 15, [28], nS) :: (16, .aload_n 0, [], nS) :: (17, .getfield 10, [5, 0, 1], nS) :: (20, .iload_n 1, [], nS) :: (21, .iload_n 2, [], nS) :: (22, .invokevirtual 245, [2, 0, 0, 0], S_X0_nearestKin) :: (25, .goto 10, [35], nS) :: L_X5_kin_28
def L_X5_kin : List Item := L_X5_kin_0
theorem ok_X5_kin : okB cX5_kin L_X5_kin = true := by decide +kernel
theorem lk_X5_kin (l : Launch) : LKs l RX5 3 false L_X5_kin := ⟨trivial, trivial, ⟨_, _, _, _, _, _, _, _, _, rfl, c_X5_isHeir l, Or.inl ⟨by decide, yv_X5_isHeir⟩, by decide, gT_of (List.mem_of_getElem? (i := 266) (by decide +kernel)) rfl⟩, trivial, trivial, trivial, ⟨_, _, _, _, _, _, _, _, _, rfl, c_X5_isHeir l, Or.inl ⟨by decide, yv_X5_isHeir⟩, by decide, gT_of (List.mem_of_getElem? (i := 266) (by decide +kernel)) rfl⟩, trivial, trivial, ⟨_, _, _, rfl, ⟨(RX5, TX5, 8), rfl, by decide, gT_of (List.mem_of_getElem? (i := 191) (by decide +kernel)) rfl⟩, rfl⟩, trivial, trivial, ⟨_, _, _, _, _, _, _, _, _, rfl, c_X0_nearestKin l, Or.inl ⟨by decide, yv_X0_nearestKin⟩, by decide, gT_of (List.mem_of_getElem? (i := 621) (by decide +kernel)) rfl⟩, trivial, trivial, trivial, ⟨_, _, _, _, _, _, _, _, _, rfl, c_X5_refuse l, Or.inl ⟨by decide, yv_X5_refuse⟩, by decide, gT_of (List.mem_of_getElem? (i := 226) (by decide +kernel)) rfl⟩, trivial, trivial⟩
theorem b_X5_kin_0 : atL L_X5_kin 0 = L_X5_kin_0 := rfl
theorem b_X5_kin_28 : atL L_X5_kin 28 = L_X5_kin_28 := rfl
theorem b_X5_kin_35 : atL L_X5_kin 35 = L_X5_kin_35 := rfl
theorem a_X5_kin_28 : afw L_X5_kin [] 28 = L_X5_kin_28 := rfl
theorem a_X5_kin_35 : afw L_X5_kin [] 35 = L_X5_kin_35 := rfl
theorem yv_X5_kin : YV yX5_kin cX5_kin 3 (some .int) 2 5 := ⟨⟨gT_of (List.mem_of_getElem? (i := 620) (by decide +kernel)) rfl, gT_of (List.mem_of_getElem? (i := 26) (by decide +kernel)) rfl, ⟨by decide, by decide⟩, by decide +kernel, by decide⟩, gT_of (List.mem_of_getElem? (i := 618) (by decide +kernel)) rfl, gT_of (List.mem_of_getElem? (i := 619) (by decide +kernel)) rfl, rfl⟩
theorem u_X5_kin_0 : L_X5_kin_0 = (0, .aload_n 0, [], nS) :: (1, .iload_n 1, [], nS) :: (2, .invokevirtual 114, [1, 5, 0, 0], S_X5_isHeir) :: (5, .ifCond .eq 23, [28], nS) :: (8, .aload_n 0, [], nS) :: (9, .iload_n 2, [], nS) :: (10, .invokevirtual 114, [1, 5, 0, 0], S_X5_isHeir) :: (13, .ifCond .eq 15, [28], nS) :: (16, .aload_n 0, [], nS) :: (17, .getfield 10, [5, 0, 1], nS) :: (20, .iload_n 1, [], nS) :: (21, .iload_n 2, [], nS) :: (22, .invokevirtual 245, [2, 0, 0, 0], S_X0_nearestKin) :: (25, .goto 10, [35], nS) :: L_X5_kin_28 := nr rfl
theorem u_X5_kin_28 : L_X5_kin_28 = (28, .aload_n 0, [], nS) :: (29, .sipush (-1002), [], nS) :: (32, .invokevirtual 55, [1, 5, 0, 0], S_X5_refuse) :: L_X5_kin_35 := nr rfl
theorem u_X5_kin_35 : L_X5_kin_35 = (35, .ireturn, [], nS) :: [] := nr rfl
theorem z_X5_kin_0 : atL L_X5_kin 0 = L_X5_kin_0 := nr rfl
theorem z_X5_kin_28 : atL L_X5_kin 28 = L_X5_kin_28 := nr rfl
theorem z_X5_kin_35 : atL L_X5_kin 35 = L_X5_kin_35 := nr rfl
theorem j_X5_kin_28 {G : List Item → SpS → List Value → List Value → AH → Prop} {J : Nat → SpS → List Value → List Value → AH → Prop} {S : SpS} {lv st : List Value} {h : AH} : jmp G J (afw L_X5_kin [] 28) 28 S lv st h = G L_X5_kin_28 S lv st h := nr rfl
theorem j_X5_kin_35 {G : List Item → SpS → List Value → List Value → AH → Prop} {J : Nat → SpS → List Value → List Value → AH → Prop} {S : SpS} {lv st : List Value} {h : AH} : jmp G J (afw L_X5_kin [] 35) 35 S lv st h = G L_X5_kin_35 S lv st h := nr rfl
theorem e_X5_kin {x : Addr} {i : Int32} {j : Int32} {h : AH} {K2 : Option Value → SpS → AH → Prop} : S_X5_kin (SHn nn) [.ref x, .int i, .int j] h K2 = (fun (K : Option Value → AH → Prop) => x = 0 ∧ XP h (fun G => g_kin G i j) K) (fun v h' => K2 v (SHn nn) h') := (lift_e P_X5_kin [.ref x, .int i, .int j] h K2).trans (nr rfl)
set_option maxRecDepth 100000 in
set_option maxHeartbeats 4000000 in
theorem c_X5_kin (l : Launch) : Ct l yX5_kin cX5_kin 3 (some .int) 3 0 0 S_X5_kin := by
  refine Ct0_mk L_X5_kin [] (by decide +kernel) (by decide) ok_X5_kin (lk_X5_kin l) ?_
  intro nn as h K hP
  match as, hP with
  | [.ref x, .int i, .int j], ⟨hx, G, hG, hI, hK⟩ =>
  refine ⟨by simp [slotsN, Value.category], fun J hJ => ?_⟩
  subst hx
  dsimp only at hK
  have hE : est h 1 = vE G := hG.1
  have ho := okG_ok hI
  have ho2 := okG_t hI
  have hn : cnt (vE G) ≤ 10 := okG_n hI
  have c4 : gI h 1 4 = nI (cnt (vE G)) := by rw [← hE]; exact est_c (hE ▸ ho)
  by_cases hh : isH G i
  · by_cases hh2 : isH G j
    · simp only [g_kin, if_pos (And.intro hh hh2)] at hK
      obtain ⟨a, ha, rfl⟩ := heir_of hn hh
      obtain ⟨d, hd, rfl⟩ := heir_of hn hh2
      refine hJ 0 _ _ _ _ ?_
      simp only [z_X5_kin_0, u_X5_kin_0, u_X5_kin_28, u_X5_kin_35, j_X5_kin_28, j_X5_kin_35, ev_aload_n0, ev_iload_n1, ev_callV1, ev_if_eq, ev_iload_n2, ev_getfR, ev_callV2, ev_goto, ev_sipush, ev_iret, ro_i, ro_z, ↓e_X0_nearestKin, ↓e_X5_isHeir, ↓e_X5_refuse, capO_z, kb_6, kb_11, kb_13, kb_15, kb_17, kb_18, kb_19, kb_23, kb_24, kb_25, kb_26, kb_29, kb_31, kb_35, kb_37, kb_41, kb_43, kb_44, kb_61, kb_75, kb_104, kb_7, kb_8, kb_9, kb_10, kb_12, kb_16, kb_20, kb_21, kb_30, kb_32, kb_40, kb_48, kb_50, kb_57, kb_59, kb_60, kb_63, kb_70, kb_78, kb_81, kb_82, kb_84, kb_97, kb_99, kb_100, kb_101, kb_119, kb_120, kb_122, ki_m1, ki_0, ki_1, ki_2, ki_3, ki_4, ki_5, ki_6, ki_7, ki_8, ki_9, ki_10, ki_11, ki_12, ki_13, ki_14, ki_15, ki_16, ki_17, ki_18, ki_19, ki_20, ki_21, ki_22, ki_23, ki_24, ki_25, ki_26, ki_27, ki_28, ki_29, ki_30, ki_31, ki_32, ki_33, ki_34, ki_35, ki_36, ki_37, ki_38, ki_39, ki_40, ki_41, ki_42, ki_43, ki_44, ki_45, ki_46, ki_47, ki_48, ki_49, ki_50, ki_51, ki_52, ki_53, ki_54, ki_55, ki_56, ki_57, ki_58, ki_59, ki_60, ki_61, ki_62, ki_63, ks_m2000, ks_m1006, ks_m1005, ks_m1004, ks_m1003, ks_m1002, ks_m1000, ks_200, ks_201, ks_300, ks_720, ks_9000, ks_10000, ks_250, ks_255, ks_256, ks_320, ks_660, ks_999, ks_1000, ks_9999, ks_12345, ne_2, ne_10, t_0, t_40, t_41, t_42, t_43, t_44, t_45, t_46, t_47, r_0_0, r_0_1, r_0_2, r_0_4, r_0_5, r_0_6, r_0_7, r_40_0, r_40_5, r_44_0, r_44_1, t_1, t_14, t_27, t_2, t_15, t_28, t_64, Nat.reduceEqDiff, ne_eq, not_false_eq_true, false_implies, true_implies, implies_true, Nat.reduceAdd, Nat.reduceLeDiff, Nat.reduceLT, Nat.reduceMul, or_true, true_or, if_true, if_false, not_true_eq_false, and_self, bF, Nat.reduceBEq, Bool.false_and, Bool.and_false, Bool.or_self, Bool.or_false, Bool.false_or, Bool.false_eq_true, Int.reduceAdd, Bool.and_self, Bool.true_and, Bool.and_true, beq_self_eq_true, not_not_, i10_, i01_, List.length_nil, List.length_cons, true_and, and_true, false_and, and_false, kl_i, kl_a, kl_n, kl_l, tl_s, tl_n, rv_S, pd_0, pd_e, pd_r, pd_i, pd_l, c4, b2i_t hh, b2i_t hh2, hE, isE1t]
      exact ⟨ho, ho2, a, ha, rfl, d, hd, rfl, hK h hG (frX_rf h)⟩
    · simp only [g_kin, if_neg (fun z : isH G i ∧ isH G j => hh2 z.2), noG] at hK
      refine hJ 0 _ _ _ _ ?_
      simp only [z_X5_kin_0, u_X5_kin_0, u_X5_kin_28, u_X5_kin_35, j_X5_kin_28, j_X5_kin_35, ev_aload_n0, ev_iload_n1, ev_callV1, ev_if_eq, ev_iload_n2, ev_getfR, ev_callV2, ev_goto, ev_sipush, ev_iret, ro_i, ro_z, ↓e_X0_nearestKin, ↓e_X5_isHeir, ↓e_X5_refuse, capO_z, kb_6, kb_11, kb_13, kb_15, kb_17, kb_18, kb_19, kb_23, kb_24, kb_25, kb_26, kb_29, kb_31, kb_35, kb_37, kb_41, kb_43, kb_44, kb_61, kb_75, kb_104, kb_7, kb_8, kb_9, kb_10, kb_12, kb_16, kb_20, kb_21, kb_30, kb_32, kb_40, kb_48, kb_50, kb_57, kb_59, kb_60, kb_63, kb_70, kb_78, kb_81, kb_82, kb_84, kb_97, kb_99, kb_100, kb_101, kb_119, kb_120, kb_122, ki_m1, ki_0, ki_1, ki_2, ki_3, ki_4, ki_5, ki_6, ki_7, ki_8, ki_9, ki_10, ki_11, ki_12, ki_13, ki_14, ki_15, ki_16, ki_17, ki_18, ki_19, ki_20, ki_21, ki_22, ki_23, ki_24, ki_25, ki_26, ki_27, ki_28, ki_29, ki_30, ki_31, ki_32, ki_33, ki_34, ki_35, ki_36, ki_37, ki_38, ki_39, ki_40, ki_41, ki_42, ki_43, ki_44, ki_45, ki_46, ki_47, ki_48, ki_49, ki_50, ki_51, ki_52, ki_53, ki_54, ki_55, ki_56, ki_57, ki_58, ki_59, ki_60, ki_61, ki_62, ki_63, ks_m2000, ks_m1006, ks_m1005, ks_m1004, ks_m1003, ks_m1002, ks_m1000, ks_200, ks_201, ks_300, ks_720, ks_9000, ks_10000, ks_250, ks_255, ks_256, ks_320, ks_660, ks_999, ks_1000, ks_9999, ks_12345, ne_2, ne_10, t_0, t_40, t_41, t_42, t_43, t_44, t_45, t_46, t_47, r_0_0, r_0_1, r_0_2, r_0_4, r_0_5, r_0_6, r_0_7, r_40_0, r_40_5, r_44_0, r_44_1, t_1, t_14, t_27, t_2, t_15, t_28, t_64, Nat.reduceEqDiff, ne_eq, not_false_eq_true, false_implies, true_implies, implies_true, Nat.reduceAdd, Nat.reduceLeDiff, Nat.reduceLT, Nat.reduceMul, or_true, true_or, if_true, if_false, not_true_eq_false, and_self, bF, Nat.reduceBEq, Bool.false_and, Bool.and_false, Bool.or_self, Bool.or_false, Bool.false_or, Bool.false_eq_true, Int.reduceAdd, Bool.and_self, Bool.true_and, Bool.and_true, beq_self_eq_true, not_not_, i10_, i01_, List.length_nil, List.length_cons, true_and, and_true, false_and, and_false, kl_i, kl_a, kl_n, kl_l, tl_s, tl_n, rv_S, pd_0, pd_e, pd_r, pd_i, pd_l, c4, b2i_t hh, b2i_f hh2, ic_2]
      exact hK _ (simX_ref hI hG kc2) (frX_ref h _)
  · simp only [g_kin, if_neg (fun z : isH G i ∧ isH G j => hh z.1), noG] at hK
    refine hJ 0 _ _ _ _ ?_
    simp only [z_X5_kin_0, u_X5_kin_0, u_X5_kin_28, u_X5_kin_35, j_X5_kin_28, j_X5_kin_35, ev_aload_n0, ev_iload_n1, ev_callV1, ev_if_eq, ev_iload_n2, ev_getfR, ev_callV2, ev_goto, ev_sipush, ev_iret, ro_i, ro_z, ↓e_X0_nearestKin, ↓e_X5_isHeir, ↓e_X5_refuse, capO_z, kb_6, kb_11, kb_13, kb_15, kb_17, kb_18, kb_19, kb_23, kb_24, kb_25, kb_26, kb_29, kb_31, kb_35, kb_37, kb_41, kb_43, kb_44, kb_61, kb_75, kb_104, kb_7, kb_8, kb_9, kb_10, kb_12, kb_16, kb_20, kb_21, kb_30, kb_32, kb_40, kb_48, kb_50, kb_57, kb_59, kb_60, kb_63, kb_70, kb_78, kb_81, kb_82, kb_84, kb_97, kb_99, kb_100, kb_101, kb_119, kb_120, kb_122, ki_m1, ki_0, ki_1, ki_2, ki_3, ki_4, ki_5, ki_6, ki_7, ki_8, ki_9, ki_10, ki_11, ki_12, ki_13, ki_14, ki_15, ki_16, ki_17, ki_18, ki_19, ki_20, ki_21, ki_22, ki_23, ki_24, ki_25, ki_26, ki_27, ki_28, ki_29, ki_30, ki_31, ki_32, ki_33, ki_34, ki_35, ki_36, ki_37, ki_38, ki_39, ki_40, ki_41, ki_42, ki_43, ki_44, ki_45, ki_46, ki_47, ki_48, ki_49, ki_50, ki_51, ki_52, ki_53, ki_54, ki_55, ki_56, ki_57, ki_58, ki_59, ki_60, ki_61, ki_62, ki_63, ks_m2000, ks_m1006, ks_m1005, ks_m1004, ks_m1003, ks_m1002, ks_m1000, ks_200, ks_201, ks_300, ks_720, ks_9000, ks_10000, ks_250, ks_255, ks_256, ks_320, ks_660, ks_999, ks_1000, ks_9999, ks_12345, ne_2, ne_10, t_0, t_40, t_41, t_42, t_43, t_44, t_45, t_46, t_47, r_0_0, r_0_1, r_0_2, r_0_4, r_0_5, r_0_6, r_0_7, r_40_0, r_40_5, r_44_0, r_44_1, t_1, t_14, t_27, t_2, t_15, t_28, t_64, Nat.reduceEqDiff, ne_eq, not_false_eq_true, false_implies, true_implies, implies_true, Nat.reduceAdd, Nat.reduceLeDiff, Nat.reduceLT, Nat.reduceMul, or_true, true_or, if_true, if_false, not_true_eq_false, and_self, bF, Nat.reduceBEq, Bool.false_and, Bool.and_false, Bool.or_self, Bool.or_false, Bool.false_or, Bool.false_eq_true, Int.reduceAdd, Bool.and_self, Bool.true_and, Bool.and_true, beq_self_eq_true, not_not_, i10_, i01_, List.length_nil, List.length_cons, true_and, and_true, false_and, and_false, kl_i, kl_a, kl_n, kl_l, tl_s, tl_n, rv_S, pd_0, pd_e, pd_r, pd_i, pd_l, c4, b2i_f hh, ic_2]
    exact hK _ (simX_ref hI hG kc2) (frX_ref h _)
theorem kinR_tr {E : ES} (hn : cnt E ≤ 10) (hT : okT E) (l : Int32) : ∀ (n : Nat) (one : Int32), tr E one → tr E (kinR E n l one)
  | 0, one, _ => Or.inl rfl
  | n + 1, one, ht => by
    rcases ht with rfl | ⟨j, hj, rfl⟩
    · rw [kinR_s, if_pos rfl]; exact Or.inl rfl
    · rw [kinR_s, if_neg (of_eq_false (nI_m1 (by omega)))]
      split
      · exact Or.inr ⟨j, hj, rfl⟩
      · rw [parE_n (by omega)]
        exact kinR_tr hn hT l n _ (tr_par hT hj)
def P_X5_steps : Sp0T := fun as h K => match as with
  | [.ref x, .int i, .int j] => x = 0 ∧ XP h (fun G => g_steps G i j) K
  | _ => False
def S_X5_steps : SpT := lift P_X5_steps
def L_X5_steps_41 : List Item := (41, .aload_n 0, [], nS) :: (42, .getfield 10, [5, 0, 1], nS) :: (45, .iload_n 1, [], nS) :: (46, .invokevirtual 242, [1, 0, 0, 0], S_X0_generation) :: (49, .aload_n 0, [], nS) :: (50, .getfield 10, [5, 0, 1], nS) :: (53, .iload_n 2, [], nS) :: (54, .invokevirtual 242, [1, 0, 0, 0], S_X0_generation) :: (57, .iadd, [], nS) :: (58, .iconst 2, [], nS) :: (59, .aload_n 0, [], nS) :: (60, .getfield 10, [5, 0, 1], nS) :: (63, .iload_n 3, [], nS) :: (64, .invokevirtual 242, [1, 0, 0, 0], S_X0_generation) :: (67, .imul, [], nS) :: (68, .isub, [], nS) :: (69, .ireturn, [], nS) :: []
def L_X5_steps_24 : List Item := (24, .aload_n 0, [], nS) :: (25, .getfield 10, [5, 0, 1], nS) :: (28, .iload_n 1, [], nS) :: (29, .iload_n 2, [], nS) :: (30, .invokevirtual 245, [2, 0, 0, 0], S_X0_nearestKin) :: (33, .istore_n 3, [], nS) :: (34, .iload_n 3, [], nS) :: (35, .iconst (-1), [], nS) :: (36, .if_icmp .ne 5, [41], nS) :: (39, .iconst (-1), [], nS) :: (40, .ireturn, [], nS) :: L_X5_steps_41
def L_X5_steps_16 : List Item := (16, .aload_n 0, [], nS) :: (17, .sipush (-1002), [], nS) :: (20, .invokevirtual 55, [1, 5, 0, 0], S_X5_refuse) :: (23, .ireturn, [], nS) :: L_X5_steps_24
def L_X5_steps_0 : List Item := (0, .aload_n 0, [], nS) :: (1, .iload_n 1, [], nS) :: (2, .invokevirtual 114, [1, 5, 0, 0], S_X5_isHeir) :: (5, .ifCond .eq 11, [16], nS) :: (8, .aload_n 0, [], nS) :: (9, .iload_n 2, [], nS) :: (10, .invokevirtual 114, [1, 5, 0, 0], S_X5_isHeir) :: (13, .ifCond .ne 11, [24], nS) :: L_X5_steps_16
def L_X5_steps : List Item := L_X5_steps_0
theorem ok_X5_steps : okB cX5_steps L_X5_steps = true := by decide +kernel
theorem lk_X5_steps (l : Launch) : LKs l RX5 3 false L_X5_steps := ⟨trivial, trivial, ⟨_, _, _, _, _, _, _, _, _, rfl, c_X5_isHeir l, Or.inl ⟨by decide, yv_X5_isHeir⟩, by decide, gT_of (List.mem_of_getElem? (i := 266) (by decide +kernel)) rfl⟩, trivial, trivial, trivial, ⟨_, _, _, _, _, _, _, _, _, rfl, c_X5_isHeir l, Or.inl ⟨by decide, yv_X5_isHeir⟩, by decide, gT_of (List.mem_of_getElem? (i := 266) (by decide +kernel)) rfl⟩, trivial, trivial, trivial, ⟨_, _, _, _, _, _, _, _, _, rfl, c_X5_refuse l, Or.inl ⟨by decide, yv_X5_refuse⟩, by decide, gT_of (List.mem_of_getElem? (i := 226) (by decide +kernel)) rfl⟩, trivial, trivial, ⟨_, _, _, rfl, ⟨(RX5, TX5, 8), rfl, by decide, gT_of (List.mem_of_getElem? (i := 191) (by decide +kernel)) rfl⟩, rfl⟩, trivial, trivial, ⟨_, _, _, _, _, _, _, _, _, rfl, c_X0_nearestKin l, Or.inl ⟨by decide, yv_X0_nearestKin⟩, by decide, gT_of (List.mem_of_getElem? (i := 621) (by decide +kernel)) rfl⟩, trivial, trivial, trivial, trivial, trivial, trivial, trivial, ⟨_, _, _, rfl, ⟨(RX5, TX5, 8), rfl, by decide, gT_of (List.mem_of_getElem? (i := 191) (by decide +kernel)) rfl⟩, rfl⟩, trivial, ⟨_, _, _, _, _, _, _, _, _, rfl, c_X0_generation l, Or.inl ⟨by decide, yv_X0_generation⟩, by decide, gT_of (List.mem_of_getElem? (i := 613) (by decide +kernel)) rfl⟩, trivial, ⟨_, _, _, rfl, ⟨(RX5, TX5, 8), rfl, by decide, gT_of (List.mem_of_getElem? (i := 191) (by decide +kernel)) rfl⟩, rfl⟩, trivial, ⟨_, _, _, _, _, _, _, _, _, rfl, c_X0_generation l, Or.inl ⟨by decide, yv_X0_generation⟩, by decide, gT_of (List.mem_of_getElem? (i := 613) (by decide +kernel)) rfl⟩, trivial, trivial, trivial, ⟨_, _, _, rfl, ⟨(RX5, TX5, 8), rfl, by decide, gT_of (List.mem_of_getElem? (i := 191) (by decide +kernel)) rfl⟩, rfl⟩, trivial, ⟨_, _, _, _, _, _, _, _, _, rfl, c_X0_generation l, Or.inl ⟨by decide, yv_X0_generation⟩, by decide, gT_of (List.mem_of_getElem? (i := 613) (by decide +kernel)) rfl⟩, trivial, trivial, trivial, trivial⟩
theorem b_X5_steps_0 : atL L_X5_steps 0 = L_X5_steps_0 := rfl
theorem b_X5_steps_16 : atL L_X5_steps 16 = L_X5_steps_16 := rfl
theorem b_X5_steps_24 : atL L_X5_steps 24 = L_X5_steps_24 := rfl
theorem b_X5_steps_41 : atL L_X5_steps 41 = L_X5_steps_41 := rfl
theorem a_X5_steps_16 : afw L_X5_steps [] 16 = L_X5_steps_16 := rfl
theorem a_X5_steps_24 : afw L_X5_steps [] 24 = L_X5_steps_24 := rfl
theorem a_X5_steps_41 : afw L_X5_steps [] 41 = L_X5_steps_41 := rfl
theorem yv_X5_steps : YV yX5_steps cX5_steps 4 (some .int) 2 5 := ⟨⟨gT_of (List.mem_of_getElem? (i := 632) (by decide +kernel)) rfl, gT_of (List.mem_of_getElem? (i := 26) (by decide +kernel)) rfl, ⟨by decide, by decide⟩, by decide +kernel, by decide⟩, gT_of (List.mem_of_getElem? (i := 630) (by decide +kernel)) rfl, gT_of (List.mem_of_getElem? (i := 631) (by decide +kernel)) rfl, rfl⟩
theorem u_X5_steps_0 : L_X5_steps_0 = (0, .aload_n 0, [], nS) :: (1, .iload_n 1, [], nS) :: (2, .invokevirtual 114, [1, 5, 0, 0], S_X5_isHeir) :: (5, .ifCond .eq 11, [16], nS) :: (8, .aload_n 0, [], nS) :: (9, .iload_n 2, [], nS) :: (10, .invokevirtual 114, [1, 5, 0, 0], S_X5_isHeir) :: (13, .ifCond .ne 11, [24], nS) :: L_X5_steps_16 := nr rfl
theorem u_X5_steps_16 : L_X5_steps_16 = (16, .aload_n 0, [], nS) :: (17, .sipush (-1002), [], nS) :: (20, .invokevirtual 55, [1, 5, 0, 0], S_X5_refuse) :: (23, .ireturn, [], nS) :: L_X5_steps_24 := nr rfl
theorem u_X5_steps_24 : L_X5_steps_24 = (24, .aload_n 0, [], nS) :: (25, .getfield 10, [5, 0, 1], nS) :: (28, .iload_n 1, [], nS) :: (29, .iload_n 2, [], nS) :: (30, .invokevirtual 245, [2, 0, 0, 0], S_X0_nearestKin) :: (33, .istore_n 3, [], nS) :: (34, .iload_n 3, [], nS) :: (35, .iconst (-1), [], nS) :: (36, .if_icmp .ne 5, [41], nS) :: (39, .iconst (-1), [], nS) :: (40, .ireturn, [], nS) :: L_X5_steps_41 := nr rfl
theorem u_X5_steps_41 : L_X5_steps_41 = (41, .aload_n 0, [], nS) :: (42, .getfield 10, [5, 0, 1], nS) :: (45, .iload_n 1, [], nS) :: (46, .invokevirtual 242, [1, 0, 0, 0], S_X0_generation) :: (49, .aload_n 0, [], nS) :: (50, .getfield 10, [5, 0, 1], nS) :: (53, .iload_n 2, [], nS) :: (54, .invokevirtual 242, [1, 0, 0, 0], S_X0_generation) :: (57, .iadd, [], nS) :: (58, .iconst 2, [], nS) :: (59, .aload_n 0, [], nS) :: (60, .getfield 10, [5, 0, 1], nS) :: (63, .iload_n 3, [], nS) :: (64, .invokevirtual 242, [1, 0, 0, 0], S_X0_generation) :: (67, .imul, [], nS) :: (68, .isub, [], nS) :: (69, .ireturn, [], nS) :: [] := nr rfl
theorem z_X5_steps_0 : atL L_X5_steps 0 = L_X5_steps_0 := nr rfl
theorem z_X5_steps_16 : atL L_X5_steps 16 = L_X5_steps_16 := nr rfl
theorem z_X5_steps_24 : atL L_X5_steps 24 = L_X5_steps_24 := nr rfl
theorem z_X5_steps_41 : atL L_X5_steps 41 = L_X5_steps_41 := nr rfl
theorem j_X5_steps_16 {G : List Item → SpS → List Value → List Value → AH → Prop} {J : Nat → SpS → List Value → List Value → AH → Prop} {S : SpS} {lv st : List Value} {h : AH} : jmp G J (afw L_X5_steps [] 16) 16 S lv st h = G L_X5_steps_16 S lv st h := nr rfl
theorem j_X5_steps_24 {G : List Item → SpS → List Value → List Value → AH → Prop} {J : Nat → SpS → List Value → List Value → AH → Prop} {S : SpS} {lv st : List Value} {h : AH} : jmp G J (afw L_X5_steps [] 24) 24 S lv st h = G L_X5_steps_24 S lv st h := nr rfl
theorem j_X5_steps_41 {G : List Item → SpS → List Value → List Value → AH → Prop} {J : Nat → SpS → List Value → List Value → AH → Prop} {S : SpS} {lv st : List Value} {h : AH} : jmp G J (afw L_X5_steps [] 41) 41 S lv st h = G L_X5_steps_41 S lv st h := nr rfl
theorem e_X5_steps {x : Addr} {i : Int32} {j : Int32} {h : AH} {K2 : Option Value → SpS → AH → Prop} : S_X5_steps (SHn nn) [.ref x, .int i, .int j] h K2 = (fun (K : Option Value → AH → Prop) => x = 0 ∧ XP h (fun G => g_steps G i j) K) (fun v h' => K2 v (SHn nn) h') := (lift_e P_X5_steps [.ref x, .int i, .int j] h K2).trans (nr rfl)
set_option maxRecDepth 100000 in
set_option maxHeartbeats 4000000 in
theorem c_X5_steps (l : Launch) : Ct l yX5_steps cX5_steps 4 (some .int) 3 0 0 S_X5_steps := by
  refine Ct0_mk L_X5_steps [] (by decide +kernel) (by decide) ok_X5_steps (lk_X5_steps l) ?_
  intro nn as h K hP
  match as, hP with
  | [.ref x, .int i, .int j], ⟨hx, G, hG, hI, hK⟩ =>
  refine ⟨by simp [slotsN, Value.category], fun J hJ => ?_⟩
  subst hx
  dsimp only at hK
  have hE : est h 1 = vE G := hG.1
  have ho := okG_ok hI
  have ho2 := okG_t hI
  have hn : cnt (vE G) ≤ 10 := okG_n hI
  have c4 : gI h 1 4 = nI (cnt (vE G)) := by rw [← hE]; exact est_c (hE ▸ ho)
  by_cases hh : isH G i
  · by_cases hh2 : isH G j
    · simp only [g_steps, if_pos (And.intro hh hh2)] at hK
      obtain ⟨a, ha, rfl⟩ := heir_of hn hh
      obtain ⟨d, hd, rfl⟩ := heir_of hn hh2
      have hr := kinR_tr hn ho2 (lineR (vE G) 10 (nI d) 0) 10 (nI a) (Or.inr ⟨a, ha, rfl⟩)
      have hk := hK h hG (frX_rf h)
      have eq1 : kinR (vE G) 10 (lineR (vE G) 10 (nI d) 0) (nI a) = kinE (vE G) (nI a) (nI d) := rfl
      rw [eq1] at hr
      refine hJ 0 _ _ _ _ ?_
      simp only [z_X5_steps_0, u_X5_steps_0, u_X5_steps_16, u_X5_steps_24, u_X5_steps_41, j_X5_steps_16, j_X5_steps_24, j_X5_steps_41, ev_aload_n0, ev_iload_n1, ev_callV1, ev_if_eq, ev_iload_n2, ev_if_ne, ev_sipush, ev_iret, ro_i, ro_z, ev_getfR, ev_callV2, ev_istore_n3, ev_iload_n3, ev_iconst, ev_ic_ne, ev_iadd, ev_imul, ev_isub, ↓e_X0_generation, ↓e_X0_nearestKin, ↓e_X5_isHeir, ↓e_X5_refuse, capO_z, kb_6, kb_11, kb_13, kb_15, kb_17, kb_18, kb_19, kb_23, kb_24, kb_25, kb_26, kb_29, kb_31, kb_35, kb_37, kb_41, kb_43, kb_44, kb_61, kb_75, kb_104, kb_7, kb_8, kb_9, kb_10, kb_12, kb_16, kb_20, kb_21, kb_30, kb_32, kb_40, kb_48, kb_50, kb_57, kb_59, kb_60, kb_63, kb_70, kb_78, kb_81, kb_82, kb_84, kb_97, kb_99, kb_100, kb_101, kb_119, kb_120, kb_122, ki_m1, ki_0, ki_1, ki_2, ki_3, ki_4, ki_5, ki_6, ki_7, ki_8, ki_9, ki_10, ki_11, ki_12, ki_13, ki_14, ki_15, ki_16, ki_17, ki_18, ki_19, ki_20, ki_21, ki_22, ki_23, ki_24, ki_25, ki_26, ki_27, ki_28, ki_29, ki_30, ki_31, ki_32, ki_33, ki_34, ki_35, ki_36, ki_37, ki_38, ki_39, ki_40, ki_41, ki_42, ki_43, ki_44, ki_45, ki_46, ki_47, ki_48, ki_49, ki_50, ki_51, ki_52, ki_53, ki_54, ki_55, ki_56, ki_57, ki_58, ki_59, ki_60, ki_61, ki_62, ki_63, ks_m2000, ks_m1006, ks_m1005, ks_m1004, ks_m1003, ks_m1002, ks_m1000, ks_200, ks_201, ks_300, ks_720, ks_9000, ks_10000, ks_250, ks_255, ks_256, ks_320, ks_660, ks_999, ks_1000, ks_9999, ks_12345, ne_2, ne_10, t_0, t_40, t_41, t_42, t_43, t_44, t_45, t_46, t_47, r_0_0, r_0_1, r_0_2, r_0_4, r_0_5, r_0_6, r_0_7, r_40_0, r_40_5, r_44_0, r_44_1, t_1, t_14, t_27, t_2, t_15, t_28, t_64, Nat.reduceEqDiff, ne_eq, not_false_eq_true, false_implies, true_implies, implies_true, Nat.reduceAdd, Nat.reduceLeDiff, Nat.reduceLT, Nat.reduceMul, or_true, true_or, if_true, if_false, not_true_eq_false, and_self, bF, Nat.reduceBEq, Bool.false_and, Bool.and_false, Bool.or_self, Bool.or_false, Bool.false_or, Bool.false_eq_true, Int.reduceAdd, Bool.and_self, Bool.true_and, Bool.and_true, beq_self_eq_true, not_not_, i10_, i01_, List.length_nil, List.length_cons, true_and, and_true, false_and, and_false, kl_i, kl_a, kl_n, kl_l, tl_s, tl_n, rv_S, pd_0, pd_e, pd_r, pd_i, pd_l, c4, b2i_t hh, b2i_t hh2, hE, isE1t, eq1]
      refine ⟨ho, ho2, a, ha, rfl, d, hd, rfl, fun q => ⟨ho, ho2, a, ha, rfl, ho, ho2, d, hd, rfl, ho, ho2, ?_⟩, fun q => ?_⟩
      · rcases hr with hr | ⟨b, hb, hr⟩
        · exact absurd hr (eq1 ▸ q)
        · refine ⟨b, hb, hr, ?_⟩
          rw [eq1] at q
          rw [stepE, if_neg q, hr, lineE, lineE, lineE, parE_n (show a < 10 by omega), parE_n (show d < 10 by omega), parE_n (show b < 10 by omega)] at hk
          exact hk
      · rw [eq1] at q
        rw [stepE, if_pos q] at hk
        exact hk
    · simp only [g_steps, if_neg (fun z : isH G i ∧ isH G j => hh2 z.2), noG] at hK
      refine hJ 0 _ _ _ _ ?_
      simp only [z_X5_steps_0, u_X5_steps_0, u_X5_steps_16, u_X5_steps_24, u_X5_steps_41, j_X5_steps_16, j_X5_steps_24, j_X5_steps_41, ev_aload_n0, ev_iload_n1, ev_callV1, ev_if_eq, ev_iload_n2, ev_if_ne, ev_sipush, ev_iret, ro_i, ro_z, ev_getfR, ev_callV2, ev_istore_n3, ev_iload_n3, ev_iconst, ev_ic_ne, ev_iadd, ev_imul, ev_isub, ↓e_X0_generation, ↓e_X0_nearestKin, ↓e_X5_isHeir, ↓e_X5_refuse, capO_z, kb_6, kb_11, kb_13, kb_15, kb_17, kb_18, kb_19, kb_23, kb_24, kb_25, kb_26, kb_29, kb_31, kb_35, kb_37, kb_41, kb_43, kb_44, kb_61, kb_75, kb_104, kb_7, kb_8, kb_9, kb_10, kb_12, kb_16, kb_20, kb_21, kb_30, kb_32, kb_40, kb_48, kb_50, kb_57, kb_59, kb_60, kb_63, kb_70, kb_78, kb_81, kb_82, kb_84, kb_97, kb_99, kb_100, kb_101, kb_119, kb_120, kb_122, ki_m1, ki_0, ki_1, ki_2, ki_3, ki_4, ki_5, ki_6, ki_7, ki_8, ki_9, ki_10, ki_11, ki_12, ki_13, ki_14, ki_15, ki_16, ki_17, ki_18, ki_19, ki_20, ki_21, ki_22, ki_23, ki_24, ki_25, ki_26, ki_27, ki_28, ki_29, ki_30, ki_31, ki_32, ki_33, ki_34, ki_35, ki_36, ki_37, ki_38, ki_39, ki_40, ki_41, ki_42, ki_43, ki_44, ki_45, ki_46, ki_47, ki_48, ki_49, ki_50, ki_51, ki_52, ki_53, ki_54, ki_55, ki_56, ki_57, ki_58, ki_59, ki_60, ki_61, ki_62, ki_63, ks_m2000, ks_m1006, ks_m1005, ks_m1004, ks_m1003, ks_m1002, ks_m1000, ks_200, ks_201, ks_300, ks_720, ks_9000, ks_10000, ks_250, ks_255, ks_256, ks_320, ks_660, ks_999, ks_1000, ks_9999, ks_12345, ne_2, ne_10, t_0, t_40, t_41, t_42, t_43, t_44, t_45, t_46, t_47, r_0_0, r_0_1, r_0_2, r_0_4, r_0_5, r_0_6, r_0_7, r_40_0, r_40_5, r_44_0, r_44_1, t_1, t_14, t_27, t_2, t_15, t_28, t_64, Nat.reduceEqDiff, ne_eq, not_false_eq_true, false_implies, true_implies, implies_true, Nat.reduceAdd, Nat.reduceLeDiff, Nat.reduceLT, Nat.reduceMul, or_true, true_or, if_true, if_false, not_true_eq_false, and_self, bF, Nat.reduceBEq, Bool.false_and, Bool.and_false, Bool.or_self, Bool.or_false, Bool.false_or, Bool.false_eq_true, Int.reduceAdd, Bool.and_self, Bool.true_and, Bool.and_true, beq_self_eq_true, not_not_, i10_, i01_, List.length_nil, List.length_cons, true_and, and_true, false_and, and_false, kl_i, kl_a, kl_n, kl_l, tl_s, tl_n, rv_S, pd_0, pd_e, pd_r, pd_i, pd_l, c4, b2i_t hh, b2i_f hh2, ic_2]
      exact hK _ (simX_ref hI hG kc2) (frX_ref h _)
  · simp only [g_steps, if_neg (fun z : isH G i ∧ isH G j => hh z.1), noG] at hK
    refine hJ 0 _ _ _ _ ?_
    simp only [z_X5_steps_0, u_X5_steps_0, u_X5_steps_16, u_X5_steps_24, u_X5_steps_41, j_X5_steps_16, j_X5_steps_24, j_X5_steps_41, ev_aload_n0, ev_iload_n1, ev_callV1, ev_if_eq, ev_iload_n2, ev_if_ne, ev_sipush, ev_iret, ro_i, ro_z, ev_getfR, ev_callV2, ev_istore_n3, ev_iload_n3, ev_iconst, ev_ic_ne, ev_iadd, ev_imul, ev_isub, ↓e_X0_generation, ↓e_X0_nearestKin, ↓e_X5_isHeir, ↓e_X5_refuse, capO_z, kb_6, kb_11, kb_13, kb_15, kb_17, kb_18, kb_19, kb_23, kb_24, kb_25, kb_26, kb_29, kb_31, kb_35, kb_37, kb_41, kb_43, kb_44, kb_61, kb_75, kb_104, kb_7, kb_8, kb_9, kb_10, kb_12, kb_16, kb_20, kb_21, kb_30, kb_32, kb_40, kb_48, kb_50, kb_57, kb_59, kb_60, kb_63, kb_70, kb_78, kb_81, kb_82, kb_84, kb_97, kb_99, kb_100, kb_101, kb_119, kb_120, kb_122, ki_m1, ki_0, ki_1, ki_2, ki_3, ki_4, ki_5, ki_6, ki_7, ki_8, ki_9, ki_10, ki_11, ki_12, ki_13, ki_14, ki_15, ki_16, ki_17, ki_18, ki_19, ki_20, ki_21, ki_22, ki_23, ki_24, ki_25, ki_26, ki_27, ki_28, ki_29, ki_30, ki_31, ki_32, ki_33, ki_34, ki_35, ki_36, ki_37, ki_38, ki_39, ki_40, ki_41, ki_42, ki_43, ki_44, ki_45, ki_46, ki_47, ki_48, ki_49, ki_50, ki_51, ki_52, ki_53, ki_54, ki_55, ki_56, ki_57, ki_58, ki_59, ki_60, ki_61, ki_62, ki_63, ks_m2000, ks_m1006, ks_m1005, ks_m1004, ks_m1003, ks_m1002, ks_m1000, ks_200, ks_201, ks_300, ks_720, ks_9000, ks_10000, ks_250, ks_255, ks_256, ks_320, ks_660, ks_999, ks_1000, ks_9999, ks_12345, ne_2, ne_10, t_0, t_40, t_41, t_42, t_43, t_44, t_45, t_46, t_47, r_0_0, r_0_1, r_0_2, r_0_4, r_0_5, r_0_6, r_0_7, r_40_0, r_40_5, r_44_0, r_44_1, t_1, t_14, t_27, t_2, t_15, t_28, t_64, Nat.reduceEqDiff, ne_eq, not_false_eq_true, false_implies, true_implies, implies_true, Nat.reduceAdd, Nat.reduceLeDiff, Nat.reduceLT, Nat.reduceMul, or_true, true_or, if_true, if_false, not_true_eq_false, and_self, bF, Nat.reduceBEq, Bool.false_and, Bool.and_false, Bool.or_self, Bool.or_false, Bool.false_or, Bool.false_eq_true, Int.reduceAdd, Bool.and_self, Bool.true_and, Bool.and_true, beq_self_eq_true, not_not_, i10_, i01_, List.length_nil, List.length_cons, true_and, and_true, false_and, and_false, kl_i, kl_a, kl_n, kl_l, tl_s, tl_n, rv_S, pd_0, pd_e, pd_r, pd_i, pd_l, c4, b2i_f hh, ic_2]
    exact hK _ (simX_ref hI hG kc2) (frX_ref h _)
def P_X5_share : Sp0T := fun as h K => match as with
  | [.ref x, .int i, .int n] => x = 0 ∧ XP h (fun G => g_share G i n) K
  | _ => False
def S_X5_share : SpT := lift P_X5_share
def L_X5_share_46 : List Item := (46, .ireturn, [], nS) :: []
def L_X5_share_45 : List Item := (45, .iconst 0, [], nS) :: L_X5_share_46
def L_X5_share_26 : List Item := (26, .aload_n 0, [], nS) :: (27, .getfield 10, [5, 0, 1], nS) :: (30, .iload_n 1, [], nS) :: (31, .invokevirtual 239, [1, 0, 0, 0], S_X0_partOf) :: (34, .istore_n 3, [], nS) :: (35, .iload_n 3, [], nS) :: (36, .ifCond .le 9, [45], nS) :: (39, .iload_n 2, [], nS) :: (40, .iload_n 3, [], nS) :: (41, .idiv, [], nS) :: (42, .goto 4, [46], nS) :: L_X5_share_45
def L_X5_share_18 : List Item := (18, .aload_n 0, [], nS) :: (19, .sipush (-1002), [], nS) :: (22, .invokevirtual 55, [1, 5, 0, 0], S_X5_refuse) :: (25, .ireturn, [], nS) :: L_X5_share_26
def L_X5_share_0 : List Item := (0, .aload_n 0, [], nS) :: (1, .iload_n 1, [], nS) :: (2, .invokevirtual 114, [1, 5, 0, 0], S_X5_isHeir) :: (5, .ifCond .eq 13, [18], nS) :: (8, .iload_n 2, [], nS) :: (9, .sipush 9999, [], nS) :: (12, .invokestatic 51, [0, 2, 0, 0], S_X5_isWithin) :: (15, .ifCond .ne 11, [26], nS) :: L_X5_share_18
def L_X5_share : List Item := L_X5_share_0
theorem ok_X5_share : okB cX5_share L_X5_share = true := by decide +kernel
theorem lk_X5_share (l : Launch) : LKs l RX5 3 false L_X5_share := ⟨trivial, trivial, ⟨_, _, _, _, _, _, _, _, _, rfl, c_X5_isHeir l, Or.inl ⟨by decide, yv_X5_isHeir⟩, by decide, gT_of (List.mem_of_getElem? (i := 266) (by decide +kernel)) rfl⟩, trivial, trivial, trivial, Or.inl ⟨_, _, _, _, _, _, _, _, rfl, c_X5_isWithin l, yv_X5_isWithin, by decide, gT_of (List.mem_of_getElem? (i := 223) (by decide +kernel)) rfl⟩, trivial, trivial, trivial, ⟨_, _, _, _, _, _, _, _, _, rfl, c_X5_refuse l, Or.inl ⟨by decide, yv_X5_refuse⟩, by decide, gT_of (List.mem_of_getElem? (i := 226) (by decide +kernel)) rfl⟩, trivial, trivial, ⟨_, _, _, rfl, ⟨(RX5, TX5, 8), rfl, by decide, gT_of (List.mem_of_getElem? (i := 191) (by decide +kernel)) rfl⟩, rfl⟩, trivial, ⟨_, _, _, _, _, _, _, _, _, rfl, c_X0_partOf l, Or.inl ⟨by decide, yv_X0_partOf⟩, by decide, gT_of (List.mem_of_getElem? (i := 597) (by decide +kernel)) rfl⟩, trivial, trivial, trivial, trivial, trivial, trivial, trivial, trivial, trivial, trivial⟩
theorem b_X5_share_0 : atL L_X5_share 0 = L_X5_share_0 := rfl
theorem b_X5_share_18 : atL L_X5_share 18 = L_X5_share_18 := rfl
theorem b_X5_share_26 : atL L_X5_share 26 = L_X5_share_26 := rfl
theorem b_X5_share_45 : atL L_X5_share 45 = L_X5_share_45 := rfl
theorem b_X5_share_46 : atL L_X5_share 46 = L_X5_share_46 := rfl
theorem a_X5_share_18 : afw L_X5_share [] 18 = L_X5_share_18 := rfl
theorem a_X5_share_26 : afw L_X5_share [] 26 = L_X5_share_26 := rfl
theorem a_X5_share_45 : afw L_X5_share [] 45 = L_X5_share_45 := rfl
theorem a_X5_share_46 : afw L_X5_share [] 46 = L_X5_share_46 := rfl
theorem yv_X5_share : YV yX5_share cX5_share 4 (some .int) 2 5 := ⟨⟨gT_of (List.mem_of_getElem? (i := 608) (by decide +kernel)) rfl, gT_of (List.mem_of_getElem? (i := 26) (by decide +kernel)) rfl, ⟨by decide, by decide⟩, by decide +kernel, by decide⟩, gT_of (List.mem_of_getElem? (i := 606) (by decide +kernel)) rfl, gT_of (List.mem_of_getElem? (i := 607) (by decide +kernel)) rfl, rfl⟩
theorem u_X5_share_0 : L_X5_share_0 = (0, .aload_n 0, [], nS) :: (1, .iload_n 1, [], nS) :: (2, .invokevirtual 114, [1, 5, 0, 0], S_X5_isHeir) :: (5, .ifCond .eq 13, [18], nS) :: (8, .iload_n 2, [], nS) :: (9, .sipush 9999, [], nS) :: (12, .invokestatic 51, [0, 2, 0, 0], S_X5_isWithin) :: (15, .ifCond .ne 11, [26], nS) :: L_X5_share_18 := nr rfl
theorem u_X5_share_18 : L_X5_share_18 = (18, .aload_n 0, [], nS) :: (19, .sipush (-1002), [], nS) :: (22, .invokevirtual 55, [1, 5, 0, 0], S_X5_refuse) :: (25, .ireturn, [], nS) :: L_X5_share_26 := nr rfl
theorem u_X5_share_26 : L_X5_share_26 = (26, .aload_n 0, [], nS) :: (27, .getfield 10, [5, 0, 1], nS) :: (30, .iload_n 1, [], nS) :: (31, .invokevirtual 239, [1, 0, 0, 0], S_X0_partOf) :: (34, .istore_n 3, [], nS) :: (35, .iload_n 3, [], nS) :: (36, .ifCond .le 9, [45], nS) :: (39, .iload_n 2, [], nS) :: (40, .iload_n 3, [], nS) :: (41, .idiv, [], nS) :: (42, .goto 4, [46], nS) :: L_X5_share_45 := nr rfl
theorem u_X5_share_45 : L_X5_share_45 = (45, .iconst 0, [], nS) :: L_X5_share_46 := nr rfl
theorem u_X5_share_46 : L_X5_share_46 = (46, .ireturn, [], nS) :: [] := nr rfl
theorem z_X5_share_0 : atL L_X5_share 0 = L_X5_share_0 := nr rfl
theorem z_X5_share_18 : atL L_X5_share 18 = L_X5_share_18 := nr rfl
theorem z_X5_share_26 : atL L_X5_share 26 = L_X5_share_26 := nr rfl
theorem z_X5_share_45 : atL L_X5_share 45 = L_X5_share_45 := nr rfl
theorem z_X5_share_46 : atL L_X5_share 46 = L_X5_share_46 := nr rfl
theorem j_X5_share_18 {G : List Item → SpS → List Value → List Value → AH → Prop} {J : Nat → SpS → List Value → List Value → AH → Prop} {S : SpS} {lv st : List Value} {h : AH} : jmp G J (afw L_X5_share [] 18) 18 S lv st h = G L_X5_share_18 S lv st h := nr rfl
theorem j_X5_share_26 {G : List Item → SpS → List Value → List Value → AH → Prop} {J : Nat → SpS → List Value → List Value → AH → Prop} {S : SpS} {lv st : List Value} {h : AH} : jmp G J (afw L_X5_share [] 26) 26 S lv st h = G L_X5_share_26 S lv st h := nr rfl
theorem j_X5_share_45 {G : List Item → SpS → List Value → List Value → AH → Prop} {J : Nat → SpS → List Value → List Value → AH → Prop} {S : SpS} {lv st : List Value} {h : AH} : jmp G J (afw L_X5_share [] 45) 45 S lv st h = G L_X5_share_45 S lv st h := nr rfl
theorem j_X5_share_46 {G : List Item → SpS → List Value → List Value → AH → Prop} {J : Nat → SpS → List Value → List Value → AH → Prop} {S : SpS} {lv st : List Value} {h : AH} : jmp G J (afw L_X5_share [] 46) 46 S lv st h = G L_X5_share_46 S lv st h := nr rfl
theorem e_X5_share {x : Addr} {i : Int32} {n : Int32} {h : AH} {K2 : Option Value → SpS → AH → Prop} : S_X5_share (SHn nn) [.ref x, .int i, .int n] h K2 = (fun (K : Option Value → AH → Prop) => x = 0 ∧ XP h (fun G => g_share G i n) K) (fun v h' => K2 v (SHn nn) h') := (lift_e P_X5_share [.ref x, .int i, .int n] h K2).trans (nr rfl)
set_option maxRecDepth 100000 in
set_option maxHeartbeats 4000000 in
theorem c_X5_share (l : Launch) : Ct l yX5_share cX5_share 4 (some .int) 3 0 0 S_X5_share := by
  refine Ct0_mk L_X5_share [] (by decide +kernel) (by decide) ok_X5_share (lk_X5_share l) ?_
  intro nn as h K hP
  match as, hP with
  | [.ref x, .int i, .int n], ⟨hx, G, hG, hI, hK⟩ =>
  refine ⟨by simp [slotsN, Value.category], fun J hJ => ?_⟩
  subst hx
  dsimp only at hK
  have hE : est h 1 = vE G := hG.1
  have ho := okG_ok hI
  have ho2 := okG_t hI
  have hn : cnt (vE G) ≤ 10 := okG_n hI
  have c4 : gI h 1 4 = nI (cnt (vE G)) := by rw [← hE]; exact est_c (hE ▸ ho)
  by_cases hh : isH G i
  · by_cases hh2 : inI n 9999
    · simp only [g_share, if_pos (And.intro hh hh2)] at hK
      obtain ⟨j, hj, rfl⟩ := heir_of hn hh
      refine hJ 0 _ _ _ _ ?_
      simp only [z_X5_share_0, u_X5_share_0, u_X5_share_18, u_X5_share_26, u_X5_share_45, u_X5_share_46, j_X5_share_18, j_X5_share_26, j_X5_share_45, j_X5_share_46, ev_aload_n0, ev_iload_n1, ev_callV1, ev_if_eq, ev_iload_n2, ev_sipush, ev_callS2, ev_if_ne, ev_iret, ro_i, ro_z, ev_getfR, ev_istore_n3, ev_iload_n3, ev_if_le, ev_idiv, ev_goto, ev_iconst, ↓e_X0_partOf, ↓e_X5_isHeir, ↓e_X5_isWithin, ↓e_X5_refuse, capO_z, kb_6, kb_11, kb_13, kb_15, kb_17, kb_18, kb_19, kb_23, kb_24, kb_25, kb_26, kb_29, kb_31, kb_35, kb_37, kb_41, kb_43, kb_44, kb_61, kb_75, kb_104, kb_7, kb_8, kb_9, kb_10, kb_12, kb_16, kb_20, kb_21, kb_30, kb_32, kb_40, kb_48, kb_50, kb_57, kb_59, kb_60, kb_63, kb_70, kb_78, kb_81, kb_82, kb_84, kb_97, kb_99, kb_100, kb_101, kb_119, kb_120, kb_122, ki_m1, ki_0, ki_1, ki_2, ki_3, ki_4, ki_5, ki_6, ki_7, ki_8, ki_9, ki_10, ki_11, ki_12, ki_13, ki_14, ki_15, ki_16, ki_17, ki_18, ki_19, ki_20, ki_21, ki_22, ki_23, ki_24, ki_25, ki_26, ki_27, ki_28, ki_29, ki_30, ki_31, ki_32, ki_33, ki_34, ki_35, ki_36, ki_37, ki_38, ki_39, ki_40, ki_41, ki_42, ki_43, ki_44, ki_45, ki_46, ki_47, ki_48, ki_49, ki_50, ki_51, ki_52, ki_53, ki_54, ki_55, ki_56, ki_57, ki_58, ki_59, ki_60, ki_61, ki_62, ki_63, ks_m2000, ks_m1006, ks_m1005, ks_m1004, ks_m1003, ks_m1002, ks_m1000, ks_200, ks_201, ks_300, ks_720, ks_9000, ks_10000, ks_250, ks_255, ks_256, ks_320, ks_660, ks_999, ks_1000, ks_9999, ks_12345, ne_2, ne_10, t_0, t_40, t_41, t_42, t_43, t_44, t_45, t_46, t_47, r_0_0, r_0_1, r_0_2, r_0_4, r_0_5, r_0_6, r_0_7, r_40_0, r_40_5, r_44_0, r_44_1, t_1, t_14, t_27, t_2, t_15, t_28, t_64, Nat.reduceEqDiff, ne_eq, not_false_eq_true, false_implies, true_implies, implies_true, Nat.reduceAdd, Nat.reduceLeDiff, Nat.reduceLT, Nat.reduceMul, or_true, true_or, if_true, if_false, not_true_eq_false, and_self, bF, Nat.reduceBEq, Bool.false_and, Bool.and_false, Bool.or_self, Bool.or_false, Bool.false_or, Bool.false_eq_true, Int.reduceAdd, Bool.and_self, Bool.true_and, Bool.and_true, beq_self_eq_true, not_not_, i10_, i01_, List.length_nil, List.length_cons, true_and, and_true, false_and, and_false, kl_i, kl_a, kl_n, kl_l, tl_s, tl_n, rv_S, pd_0, pd_e, pd_r, pd_i, pd_l, c4, b2i_t hh, b2i_t hh2, hE, isE1t]
      refine ⟨ho, ho2, j, hj, rfl, fun q => ?_, fun q => ?_⟩
      · rw [if_neg (Int32.not_lt.mpr q)] at hK
        exact hK h hG (frX_rf h)
      · rw [if_pos (Int32.not_le.mp q)] at hK
        exact ⟨fun z => q (by rw [z]; exact Int32.le_refl _), hK h hG (frX_rf h)⟩
    · simp only [g_share, if_neg (fun z : isH G i ∧ inI n 9999 => hh2 z.2), noG] at hK
      refine hJ 0 _ _ _ _ ?_
      simp only [z_X5_share_0, u_X5_share_0, u_X5_share_18, u_X5_share_26, u_X5_share_45, u_X5_share_46, j_X5_share_18, j_X5_share_26, j_X5_share_45, j_X5_share_46, ev_aload_n0, ev_iload_n1, ev_callV1, ev_if_eq, ev_iload_n2, ev_sipush, ev_callS2, ev_if_ne, ev_iret, ro_i, ro_z, ev_getfR, ev_istore_n3, ev_iload_n3, ev_if_le, ev_idiv, ev_goto, ev_iconst, ↓e_X0_partOf, ↓e_X5_isHeir, ↓e_X5_isWithin, ↓e_X5_refuse, capO_z, kb_6, kb_11, kb_13, kb_15, kb_17, kb_18, kb_19, kb_23, kb_24, kb_25, kb_26, kb_29, kb_31, kb_35, kb_37, kb_41, kb_43, kb_44, kb_61, kb_75, kb_104, kb_7, kb_8, kb_9, kb_10, kb_12, kb_16, kb_20, kb_21, kb_30, kb_32, kb_40, kb_48, kb_50, kb_57, kb_59, kb_60, kb_63, kb_70, kb_78, kb_81, kb_82, kb_84, kb_97, kb_99, kb_100, kb_101, kb_119, kb_120, kb_122, ki_m1, ki_0, ki_1, ki_2, ki_3, ki_4, ki_5, ki_6, ki_7, ki_8, ki_9, ki_10, ki_11, ki_12, ki_13, ki_14, ki_15, ki_16, ki_17, ki_18, ki_19, ki_20, ki_21, ki_22, ki_23, ki_24, ki_25, ki_26, ki_27, ki_28, ki_29, ki_30, ki_31, ki_32, ki_33, ki_34, ki_35, ki_36, ki_37, ki_38, ki_39, ki_40, ki_41, ki_42, ki_43, ki_44, ki_45, ki_46, ki_47, ki_48, ki_49, ki_50, ki_51, ki_52, ki_53, ki_54, ki_55, ki_56, ki_57, ki_58, ki_59, ki_60, ki_61, ki_62, ki_63, ks_m2000, ks_m1006, ks_m1005, ks_m1004, ks_m1003, ks_m1002, ks_m1000, ks_200, ks_201, ks_300, ks_720, ks_9000, ks_10000, ks_250, ks_255, ks_256, ks_320, ks_660, ks_999, ks_1000, ks_9999, ks_12345, ne_2, ne_10, t_0, t_40, t_41, t_42, t_43, t_44, t_45, t_46, t_47, r_0_0, r_0_1, r_0_2, r_0_4, r_0_5, r_0_6, r_0_7, r_40_0, r_40_5, r_44_0, r_44_1, t_1, t_14, t_27, t_2, t_15, t_28, t_64, Nat.reduceEqDiff, ne_eq, not_false_eq_true, false_implies, true_implies, implies_true, Nat.reduceAdd, Nat.reduceLeDiff, Nat.reduceLT, Nat.reduceMul, or_true, true_or, if_true, if_false, not_true_eq_false, and_self, bF, Nat.reduceBEq, Bool.false_and, Bool.and_false, Bool.or_self, Bool.or_false, Bool.false_or, Bool.false_eq_true, Int.reduceAdd, Bool.and_self, Bool.true_and, Bool.and_true, beq_self_eq_true, not_not_, i10_, i01_, List.length_nil, List.length_cons, true_and, and_true, false_and, and_false, kl_i, kl_a, kl_n, kl_l, tl_s, tl_n, rv_S, pd_0, pd_e, pd_r, pd_i, pd_l, c4, b2i_t hh, b2i_f hh2, ic_2]
      exact hK _ (simX_ref hI hG kc2) (frX_ref h _)
  · simp only [g_share, if_neg (fun z : isH G i ∧ inI n 9999 => hh z.1), noG] at hK
    refine hJ 0 _ _ _ _ ?_
    simp only [z_X5_share_0, u_X5_share_0, u_X5_share_18, u_X5_share_26, u_X5_share_45, u_X5_share_46, j_X5_share_18, j_X5_share_26, j_X5_share_45, j_X5_share_46, ev_aload_n0, ev_iload_n1, ev_callV1, ev_if_eq, ev_iload_n2, ev_sipush, ev_callS2, ev_if_ne, ev_iret, ro_i, ro_z, ev_getfR, ev_istore_n3, ev_iload_n3, ev_if_le, ev_idiv, ev_goto, ev_iconst, ↓e_X0_partOf, ↓e_X5_isHeir, ↓e_X5_isWithin, ↓e_X5_refuse, capO_z, kb_6, kb_11, kb_13, kb_15, kb_17, kb_18, kb_19, kb_23, kb_24, kb_25, kb_26, kb_29, kb_31, kb_35, kb_37, kb_41, kb_43, kb_44, kb_61, kb_75, kb_104, kb_7, kb_8, kb_9, kb_10, kb_12, kb_16, kb_20, kb_21, kb_30, kb_32, kb_40, kb_48, kb_50, kb_57, kb_59, kb_60, kb_63, kb_70, kb_78, kb_81, kb_82, kb_84, kb_97, kb_99, kb_100, kb_101, kb_119, kb_120, kb_122, ki_m1, ki_0, ki_1, ki_2, ki_3, ki_4, ki_5, ki_6, ki_7, ki_8, ki_9, ki_10, ki_11, ki_12, ki_13, ki_14, ki_15, ki_16, ki_17, ki_18, ki_19, ki_20, ki_21, ki_22, ki_23, ki_24, ki_25, ki_26, ki_27, ki_28, ki_29, ki_30, ki_31, ki_32, ki_33, ki_34, ki_35, ki_36, ki_37, ki_38, ki_39, ki_40, ki_41, ki_42, ki_43, ki_44, ki_45, ki_46, ki_47, ki_48, ki_49, ki_50, ki_51, ki_52, ki_53, ki_54, ki_55, ki_56, ki_57, ki_58, ki_59, ki_60, ki_61, ki_62, ki_63, ks_m2000, ks_m1006, ks_m1005, ks_m1004, ks_m1003, ks_m1002, ks_m1000, ks_200, ks_201, ks_300, ks_720, ks_9000, ks_10000, ks_250, ks_255, ks_256, ks_320, ks_660, ks_999, ks_1000, ks_9999, ks_12345, ne_2, ne_10, t_0, t_40, t_41, t_42, t_43, t_44, t_45, t_46, t_47, r_0_0, r_0_1, r_0_2, r_0_4, r_0_5, r_0_6, r_0_7, r_40_0, r_40_5, r_44_0, r_44_1, t_1, t_14, t_27, t_2, t_15, t_28, t_64, Nat.reduceEqDiff, ne_eq, not_false_eq_true, false_implies, true_implies, implies_true, Nat.reduceAdd, Nat.reduceLeDiff, Nat.reduceLT, Nat.reduceMul, or_true, true_or, if_true, if_false, not_true_eq_false, and_self, bF, Nat.reduceBEq, Bool.false_and, Bool.and_false, Bool.or_self, Bool.or_false, Bool.false_or, Bool.false_eq_true, Int.reduceAdd, Bool.and_self, Bool.true_and, Bool.and_true, beq_self_eq_true, not_not_, i10_, i01_, List.length_nil, List.length_cons, true_and, and_true, false_and, and_false, kl_i, kl_a, kl_n, kl_l, tl_s, tl_n, rv_S, pd_0, pd_e, pd_r, pd_i, pd_l, c4, b2i_f hh, ic_2]
    exact hK _ (simX_ref hI hG kc2) (frX_ref h _)
def P_X5_heirOf : Sp0T := fun as h K => match as with
  | [.ref x, .int i, .int w] => x = 0 ∧ XP h (fun G => g_heirOf G i w) K
  | _ => False
def S_X5_heirOf : SpT := lift P_X5_heirOf
def L_X5_heirOf_119 : List Item := (119, .aload_n 0, [], nS) :: (120, .sipush (-1002), [], nS) :: (123, .invokevirtual 55, [1, 5, 0, 0], S_X5_refuse) :: (126, .ireturn, [], nS) :: []
def L_X5_heirOf_107 : List Item := (107, .aload_n 3, [], nS) :: (108, .aload_n 0, [], nS) :: (109, .getfield 10, [5, 0, 1], nS) :: (112, .getfield 129, [0, 1, 0], nS) :: (115, .invokevirtual 180, [1, 1, 0, 0], S_X1_age) :: (118, .ireturn, [], nS) :: L_X5_heirOf_119
def L_X5_heirOf_102 : List Item := (102, .aload_n 3, [], nS) :: (103, .getfield 177, [1, 6, 0], nS) :: (106, .ireturn, [], nS) :: L_X5_heirOf_107
def L_X5_heirOf_97 : List Item := (97, .aload_n 3, [], nS) :: (98, .getfield 174, [1, 5, 0], nS) :: (101, .ireturn, [], nS) :: L_X5_heirOf_102
def L_X5_heirOf_92 : List Item := (92, .aload_n 3, [], nS) :: (93, .getfield 126, [1, 4, 0], nS) :: (96, .ireturn, [], nS) :: L_X5_heirOf_97
def L_X5_heirOf_87 : List Item := (87, .aload_n 3, [], nS) :: (88, .getfield 171, [1, 3, 0], nS) :: (91, .ireturn, [], nS) :: L_X5_heirOf_92
def L_X5_heirOf_82 : List Item := (82, .aload_n 3, [], nS) :: (83, .getfield 168, [1, 2, 0], nS) :: (86, .ireturn, [], nS) :: L_X5_heirOf_87
def L_X5_heirOf_77 : List Item := (77, .aload_n 3, [], nS) :: (78, .getfield 165, [1, 1, 0], nS) :: (81, .ireturn, [], nS) :: L_X5_heirOf_82
def L_X5_heirOf_72 : List Item := (72, .aload_n 3, [], nS) :: (73, .getfield 162, [1, 0, 0], nS) :: (76, .ireturn, [], nS) :: L_X5_heirOf_77
def L_X5_heirOf_16 : List Item := (16, .aload_n 0, [], nS) :: (17, .getfield 10, [5, 0, 1], nS) :: (20, .getfield 117, [0, 6, 1], nS) :: (23, .iload_n 1, [], nS) :: (24, .aaload, [], nS) :: (25, .astore_n 3, [], nS) :: (26, .iload_n 2, [], nS) :: (27, .tableswitch 92 0 7 #[45, 50, 55, 60, 65, 70, 75, 80], [72, 77, 82, 87, 92, 97, 102, 107, 119], nS) :: L_X5_heirOf_72
def L_X5_heirOf_0 : List Item := (0, .aload_n 0, [], nS) :: (1, .iload_n 1, [], nS) :: (2, .invokevirtual 114, [1, 5, 0, 0], S_X5_isHeir) :: (5, .ifCond .ne 11, [16], nS) :: (8, .aload_n 0, [], nS) :: (9, .sipush (-1002), [], nS) :: (12, .invokevirtual 55, [1, 5, 0, 0], S_X5_refuse) :: (15, .ireturn, [], nS) :: L_X5_heirOf_16
def L_X5_heirOf : List Item := L_X5_heirOf_0
theorem ok_X5_heirOf : okB cX5_heirOf L_X5_heirOf = true := by decide +kernel
theorem lk_X5_heirOf (l : Launch) : LKs l RX5 3 false L_X5_heirOf := ⟨trivial, trivial, ⟨_, _, _, _, _, _, _, _, _, rfl, c_X5_isHeir l, Or.inl ⟨by decide, yv_X5_isHeir⟩, by decide, gT_of (List.mem_of_getElem? (i := 266) (by decide +kernel)) rfl⟩, trivial, trivial, trivial, ⟨_, _, _, _, _, _, _, _, _, rfl, c_X5_refuse l, Or.inl ⟨by decide, yv_X5_refuse⟩, by decide, gT_of (List.mem_of_getElem? (i := 226) (by decide +kernel)) rfl⟩, trivial, trivial, ⟨_, _, _, rfl, ⟨(RX5, TX5, 8), rfl, by decide, gT_of (List.mem_of_getElem? (i := 191) (by decide +kernel)) rfl⟩, rfl⟩, ⟨_, _, _, rfl, ⟨(RX0, TX0, 7), rfl, by decide, gT_of (List.mem_of_getElem? (i := 114) (by decide +kernel)) rfl⟩, rfl⟩, trivial, trivial, trivial, trivial, trivial, trivial, ⟨_, _, _, rfl, ⟨(RX1, TX1, 7), rfl, by decide, gT_of (List.mem_of_getElem? (i := 61) (by decide +kernel)) rfl⟩, rfl⟩, trivial, trivial, ⟨_, _, _, rfl, ⟨(RX1, TX1, 7), rfl, by decide, gT_of (List.mem_of_getElem? (i := 63) (by decide +kernel)) rfl⟩, rfl⟩, trivial, trivial, ⟨_, _, _, rfl, ⟨(RX1, TX1, 7), rfl, by decide, gT_of (List.mem_of_getElem? (i := 66) (by decide +kernel)) rfl⟩, rfl⟩, trivial, trivial, ⟨_, _, _, rfl, ⟨(RX1, TX1, 7), rfl, by decide, gT_of (List.mem_of_getElem? (i := 68) (by decide +kernel)) rfl⟩, rfl⟩, trivial, trivial, ⟨_, _, _, rfl, ⟨(RX1, TX1, 7), rfl, by decide, gT_of (List.mem_of_getElem? (i := 72) (by decide +kernel)) rfl⟩, rfl⟩, trivial, trivial, ⟨_, _, _, rfl, ⟨(RX1, TX1, 7), rfl, by decide, gT_of (List.mem_of_getElem? (i := 75) (by decide +kernel)) rfl⟩, rfl⟩, trivial, trivial, ⟨_, _, _, rfl, ⟨(RX1, TX1, 7), rfl, by decide, gT_of (List.mem_of_getElem? (i := 78) (by decide +kernel)) rfl⟩, rfl⟩, trivial, trivial, trivial, ⟨_, _, _, rfl, ⟨(RX5, TX5, 8), rfl, by decide, gT_of (List.mem_of_getElem? (i := 191) (by decide +kernel)) rfl⟩, rfl⟩, ⟨_, _, _, rfl, ⟨(RX0, TX0, 7), rfl, by decide, gT_of (List.mem_of_getElem? (i := 100) (by decide +kernel)) rfl⟩, rfl⟩, ⟨_, _, _, _, _, _, _, _, _, rfl, c_X1_age l, Or.inl ⟨by decide, yv_X1_age⟩, by decide, gT_of (List.mem_of_getElem? (i := 439) (by decide +kernel)) rfl⟩, trivial, trivial, trivial, ⟨_, _, _, _, _, _, _, _, _, rfl, c_X5_refuse l, Or.inl ⟨by decide, yv_X5_refuse⟩, by decide, gT_of (List.mem_of_getElem? (i := 226) (by decide +kernel)) rfl⟩, trivial, trivial⟩
theorem b_X5_heirOf_0 : atL L_X5_heirOf 0 = L_X5_heirOf_0 := rfl
theorem b_X5_heirOf_16 : atL L_X5_heirOf 16 = L_X5_heirOf_16 := rfl
theorem b_X5_heirOf_72 : atL L_X5_heirOf 72 = L_X5_heirOf_72 := rfl
theorem b_X5_heirOf_77 : atL L_X5_heirOf 77 = L_X5_heirOf_77 := rfl
theorem b_X5_heirOf_82 : atL L_X5_heirOf 82 = L_X5_heirOf_82 := rfl
theorem b_X5_heirOf_87 : atL L_X5_heirOf 87 = L_X5_heirOf_87 := rfl
theorem b_X5_heirOf_92 : atL L_X5_heirOf 92 = L_X5_heirOf_92 := rfl
theorem b_X5_heirOf_97 : atL L_X5_heirOf 97 = L_X5_heirOf_97 := rfl
theorem b_X5_heirOf_102 : atL L_X5_heirOf 102 = L_X5_heirOf_102 := rfl
theorem b_X5_heirOf_107 : atL L_X5_heirOf 107 = L_X5_heirOf_107 := rfl
theorem b_X5_heirOf_119 : atL L_X5_heirOf 119 = L_X5_heirOf_119 := rfl
theorem a_X5_heirOf_16 : afw L_X5_heirOf [] 16 = L_X5_heirOf_16 := rfl
theorem a_X5_heirOf_72 : afw L_X5_heirOf [] 72 = L_X5_heirOf_72 := rfl
theorem a_X5_heirOf_77 : afw L_X5_heirOf [] 77 = L_X5_heirOf_77 := rfl
theorem a_X5_heirOf_82 : afw L_X5_heirOf [] 82 = L_X5_heirOf_82 := rfl
theorem a_X5_heirOf_87 : afw L_X5_heirOf [] 87 = L_X5_heirOf_87 := rfl
theorem a_X5_heirOf_92 : afw L_X5_heirOf [] 92 = L_X5_heirOf_92 := rfl
theorem a_X5_heirOf_97 : afw L_X5_heirOf [] 97 = L_X5_heirOf_97 := rfl
theorem a_X5_heirOf_102 : afw L_X5_heirOf [] 102 = L_X5_heirOf_102 := rfl
theorem a_X5_heirOf_107 : afw L_X5_heirOf [] 107 = L_X5_heirOf_107 := rfl
theorem a_X5_heirOf_119 : afw L_X5_heirOf [] 119 = L_X5_heirOf_119 := rfl
theorem yv_X5_heirOf : YV yX5_heirOf cX5_heirOf 4 (some .int) 2 5 := ⟨⟨gT_of (List.mem_of_getElem? (i := 438) (by decide +kernel)) rfl, gT_of (List.mem_of_getElem? (i := 26) (by decide +kernel)) rfl, ⟨by decide, by decide⟩, by decide +kernel, by decide⟩, gT_of (List.mem_of_getElem? (i := 436) (by decide +kernel)) rfl, gT_of (List.mem_of_getElem? (i := 437) (by decide +kernel)) rfl, rfl⟩
theorem u_X5_heirOf_0 : L_X5_heirOf_0 = (0, .aload_n 0, [], nS) :: (1, .iload_n 1, [], nS) :: (2, .invokevirtual 114, [1, 5, 0, 0], S_X5_isHeir) :: (5, .ifCond .ne 11, [16], nS) :: (8, .aload_n 0, [], nS) :: (9, .sipush (-1002), [], nS) :: (12, .invokevirtual 55, [1, 5, 0, 0], S_X5_refuse) :: (15, .ireturn, [], nS) :: L_X5_heirOf_16 := nr rfl
theorem u_X5_heirOf_16 : L_X5_heirOf_16 = (16, .aload_n 0, [], nS) :: (17, .getfield 10, [5, 0, 1], nS) :: (20, .getfield 117, [0, 6, 1], nS) :: (23, .iload_n 1, [], nS) :: (24, .aaload, [], nS) :: (25, .astore_n 3, [], nS) :: (26, .iload_n 2, [], nS) :: (27, .tableswitch 92 0 7 #[45, 50, 55, 60, 65, 70, 75, 80], [72, 77, 82, 87, 92, 97, 102, 107, 119], nS) :: L_X5_heirOf_72 := nr rfl
theorem u_X5_heirOf_72 : L_X5_heirOf_72 = (72, .aload_n 3, [], nS) :: (73, .getfield 162, [1, 0, 0], nS) :: (76, .ireturn, [], nS) :: L_X5_heirOf_77 := nr rfl
theorem u_X5_heirOf_77 : L_X5_heirOf_77 = (77, .aload_n 3, [], nS) :: (78, .getfield 165, [1, 1, 0], nS) :: (81, .ireturn, [], nS) :: L_X5_heirOf_82 := nr rfl
theorem u_X5_heirOf_82 : L_X5_heirOf_82 = (82, .aload_n 3, [], nS) :: (83, .getfield 168, [1, 2, 0], nS) :: (86, .ireturn, [], nS) :: L_X5_heirOf_87 := nr rfl
theorem u_X5_heirOf_87 : L_X5_heirOf_87 = (87, .aload_n 3, [], nS) :: (88, .getfield 171, [1, 3, 0], nS) :: (91, .ireturn, [], nS) :: L_X5_heirOf_92 := nr rfl
theorem u_X5_heirOf_92 : L_X5_heirOf_92 = (92, .aload_n 3, [], nS) :: (93, .getfield 126, [1, 4, 0], nS) :: (96, .ireturn, [], nS) :: L_X5_heirOf_97 := nr rfl
theorem u_X5_heirOf_97 : L_X5_heirOf_97 = (97, .aload_n 3, [], nS) :: (98, .getfield 174, [1, 5, 0], nS) :: (101, .ireturn, [], nS) :: L_X5_heirOf_102 := nr rfl
theorem u_X5_heirOf_102 : L_X5_heirOf_102 = (102, .aload_n 3, [], nS) :: (103, .getfield 177, [1, 6, 0], nS) :: (106, .ireturn, [], nS) :: L_X5_heirOf_107 := nr rfl
theorem u_X5_heirOf_107 : L_X5_heirOf_107 = (107, .aload_n 3, [], nS) :: (108, .aload_n 0, [], nS) :: (109, .getfield 10, [5, 0, 1], nS) :: (112, .getfield 129, [0, 1, 0], nS) :: (115, .invokevirtual 180, [1, 1, 0, 0], S_X1_age) :: (118, .ireturn, [], nS) :: L_X5_heirOf_119 := nr rfl
theorem u_X5_heirOf_119 : L_X5_heirOf_119 = (119, .aload_n 0, [], nS) :: (120, .sipush (-1002), [], nS) :: (123, .invokevirtual 55, [1, 5, 0, 0], S_X5_refuse) :: (126, .ireturn, [], nS) :: [] := nr rfl
theorem z_X5_heirOf_0 : atL L_X5_heirOf 0 = L_X5_heirOf_0 := nr rfl
theorem z_X5_heirOf_16 : atL L_X5_heirOf 16 = L_X5_heirOf_16 := nr rfl
theorem z_X5_heirOf_72 : atL L_X5_heirOf 72 = L_X5_heirOf_72 := nr rfl
theorem z_X5_heirOf_77 : atL L_X5_heirOf 77 = L_X5_heirOf_77 := nr rfl
theorem z_X5_heirOf_82 : atL L_X5_heirOf 82 = L_X5_heirOf_82 := nr rfl
theorem z_X5_heirOf_87 : atL L_X5_heirOf 87 = L_X5_heirOf_87 := nr rfl
theorem z_X5_heirOf_92 : atL L_X5_heirOf 92 = L_X5_heirOf_92 := nr rfl
theorem z_X5_heirOf_97 : atL L_X5_heirOf 97 = L_X5_heirOf_97 := nr rfl
theorem z_X5_heirOf_102 : atL L_X5_heirOf 102 = L_X5_heirOf_102 := nr rfl
theorem z_X5_heirOf_107 : atL L_X5_heirOf 107 = L_X5_heirOf_107 := nr rfl
theorem z_X5_heirOf_119 : atL L_X5_heirOf 119 = L_X5_heirOf_119 := nr rfl
theorem j_X5_heirOf_16 {G : List Item → SpS → List Value → List Value → AH → Prop} {J : Nat → SpS → List Value → List Value → AH → Prop} {S : SpS} {lv st : List Value} {h : AH} : jmp G J (afw L_X5_heirOf [] 16) 16 S lv st h = G L_X5_heirOf_16 S lv st h := nr rfl
theorem j_X5_heirOf_72 {G : List Item → SpS → List Value → List Value → AH → Prop} {J : Nat → SpS → List Value → List Value → AH → Prop} {S : SpS} {lv st : List Value} {h : AH} : jmp G J (afw L_X5_heirOf [] 72) 72 S lv st h = G L_X5_heirOf_72 S lv st h := nr rfl
theorem j_X5_heirOf_77 {G : List Item → SpS → List Value → List Value → AH → Prop} {J : Nat → SpS → List Value → List Value → AH → Prop} {S : SpS} {lv st : List Value} {h : AH} : jmp G J (afw L_X5_heirOf [] 77) 77 S lv st h = G L_X5_heirOf_77 S lv st h := nr rfl
theorem j_X5_heirOf_82 {G : List Item → SpS → List Value → List Value → AH → Prop} {J : Nat → SpS → List Value → List Value → AH → Prop} {S : SpS} {lv st : List Value} {h : AH} : jmp G J (afw L_X5_heirOf [] 82) 82 S lv st h = G L_X5_heirOf_82 S lv st h := nr rfl
theorem j_X5_heirOf_87 {G : List Item → SpS → List Value → List Value → AH → Prop} {J : Nat → SpS → List Value → List Value → AH → Prop} {S : SpS} {lv st : List Value} {h : AH} : jmp G J (afw L_X5_heirOf [] 87) 87 S lv st h = G L_X5_heirOf_87 S lv st h := nr rfl
theorem j_X5_heirOf_92 {G : List Item → SpS → List Value → List Value → AH → Prop} {J : Nat → SpS → List Value → List Value → AH → Prop} {S : SpS} {lv st : List Value} {h : AH} : jmp G J (afw L_X5_heirOf [] 92) 92 S lv st h = G L_X5_heirOf_92 S lv st h := nr rfl
theorem j_X5_heirOf_97 {G : List Item → SpS → List Value → List Value → AH → Prop} {J : Nat → SpS → List Value → List Value → AH → Prop} {S : SpS} {lv st : List Value} {h : AH} : jmp G J (afw L_X5_heirOf [] 97) 97 S lv st h = G L_X5_heirOf_97 S lv st h := nr rfl
theorem j_X5_heirOf_102 {G : List Item → SpS → List Value → List Value → AH → Prop} {J : Nat → SpS → List Value → List Value → AH → Prop} {S : SpS} {lv st : List Value} {h : AH} : jmp G J (afw L_X5_heirOf [] 102) 102 S lv st h = G L_X5_heirOf_102 S lv st h := nr rfl
theorem j_X5_heirOf_107 {G : List Item → SpS → List Value → List Value → AH → Prop} {J : Nat → SpS → List Value → List Value → AH → Prop} {S : SpS} {lv st : List Value} {h : AH} : jmp G J (afw L_X5_heirOf [] 107) 107 S lv st h = G L_X5_heirOf_107 S lv st h := nr rfl
theorem j_X5_heirOf_119 {G : List Item → SpS → List Value → List Value → AH → Prop} {J : Nat → SpS → List Value → List Value → AH → Prop} {S : SpS} {lv st : List Value} {h : AH} : jmp G J (afw L_X5_heirOf [] 119) 119 S lv st h = G L_X5_heirOf_119 S lv st h := nr rfl
theorem e_X5_heirOf {x : Addr} {i : Int32} {w : Int32} {h : AH} {K2 : Option Value → SpS → AH → Prop} : S_X5_heirOf (SHn nn) [.ref x, .int i, .int w] h K2 = (fun (K : Option Value → AH → Prop) => x = 0 ∧ XP h (fun G => g_heirOf G i w) K) (fun v h' => K2 v (SHn nn) h') := (lift_e P_X5_heirOf [.ref x, .int i, .int w] h K2).trans (nr rfl)
set_option maxRecDepth 100000 in
set_option maxHeartbeats 4000000 in
theorem c_X5_heirOf (l : Launch) : Ct l yX5_heirOf cX5_heirOf 4 (some .int) 3 0 0 S_X5_heirOf := by
  refine Ct0_mk L_X5_heirOf [] (by decide +kernel) (by decide) ok_X5_heirOf (lk_X5_heirOf l) ?_
  intro nn as h K hP
  match as, hP with
  | [.ref x, .int i, .int w], ⟨hx, G, hG, hI, hK⟩ =>
  refine ⟨by simp [slotsN, Value.category], fun J hJ => ?_⟩
  subst hx
  dsimp only at hK
  have hE : est h 1 = vE G := hG.1
  have ho := okG_ok hI
  have ho2 := okG_t hI
  have hn : cnt (vE G) ≤ 10 := okG_n hI
  have c4 : gI h 1 4 = nI (cnt (vE G)) := by rw [← hE]; exact est_c (hE ▸ ho)
  by_cases hh : isH G i
  · simp only [g_heirOf, if_pos hh] at hK
    obtain ⟨j, hj, rfl⟩ := heir_of hn hh
    have hj10 : j < 10 := by omega
    have gf : ∀ k, k < 7 → gI h (1 + 3 + j) k = eF (vE G) j k := fun k hk => by rw [← hE]; exact (est_f (by rw [hE]; exact hj) hk).symm
    have g0 := gf 0 (by omega)
    have g1 := gf 1 (by omega)
    have g2 := gf 2 (by omega)
    have g3_ := gf 3 (by omega)
    have g4 := gf 4 (by omega)
    have g5_ := gf 5 (by omega)
    have g6 := gf 6 (by omega)
    have gy : gI h 1 1 = eS (vE G) 1 := by rw [← hE]; exact (est_s (by omega)).symm
    rw [ix_n hj10] at hK
    refine hJ 0 _ _ _ _ ?_
    simp only [z_X5_heirOf_0, u_X5_heirOf_0, u_X5_heirOf_16, u_X5_heirOf_72, u_X5_heirOf_77, u_X5_heirOf_82, u_X5_heirOf_87, u_X5_heirOf_92, u_X5_heirOf_97, u_X5_heirOf_102, u_X5_heirOf_107, u_X5_heirOf_119, j_X5_heirOf_16, j_X5_heirOf_72, j_X5_heirOf_77, j_X5_heirOf_82, j_X5_heirOf_87, j_X5_heirOf_92, j_X5_heirOf_97, j_X5_heirOf_102, j_X5_heirOf_107, j_X5_heirOf_119, ev_aload_n0, ev_iload_n1, ev_callV1, ev_if_ne, ev_sipush, ev_iret, ro_i, ro_z, ev_getfR, ev_aaload, ev_astore_n3, ev_iload_n2, ev_tableswitch, ev_sw1, ev_swc, ev_aload_n3, ev_getfI, ↓e_X1_age, ↓e_X5_isHeir, ↓e_X5_refuse, capO_z, kb_6, kb_11, kb_13, kb_15, kb_17, kb_18, kb_19, kb_23, kb_24, kb_25, kb_26, kb_29, kb_31, kb_35, kb_37, kb_41, kb_43, kb_44, kb_61, kb_75, kb_104, kb_7, kb_8, kb_9, kb_10, kb_12, kb_16, kb_20, kb_21, kb_30, kb_32, kb_40, kb_48, kb_50, kb_57, kb_59, kb_60, kb_63, kb_70, kb_78, kb_81, kb_82, kb_84, kb_97, kb_99, kb_100, kb_101, kb_119, kb_120, kb_122, ki_m1, ki_0, ki_1, ki_2, ki_3, ki_4, ki_5, ki_6, ki_7, ki_8, ki_9, ki_10, ki_11, ki_12, ki_13, ki_14, ki_15, ki_16, ki_17, ki_18, ki_19, ki_20, ki_21, ki_22, ki_23, ki_24, ki_25, ki_26, ki_27, ki_28, ki_29, ki_30, ki_31, ki_32, ki_33, ki_34, ki_35, ki_36, ki_37, ki_38, ki_39, ki_40, ki_41, ki_42, ki_43, ki_44, ki_45, ki_46, ki_47, ki_48, ki_49, ki_50, ki_51, ki_52, ki_53, ki_54, ki_55, ki_56, ki_57, ki_58, ki_59, ki_60, ki_61, ki_62, ki_63, ks_m2000, ks_m1006, ks_m1005, ks_m1004, ks_m1003, ks_m1002, ks_m1000, ks_200, ks_201, ks_300, ks_720, ks_9000, ks_10000, ks_250, ks_255, ks_256, ks_320, ks_660, ks_999, ks_1000, ks_9999, ks_12345, ne_2, ne_10, t_0, t_40, t_41, t_42, t_43, t_44, t_45, t_46, t_47, r_0_0, r_0_1, r_0_2, r_0_4, r_0_5, r_0_6, r_0_7, r_40_0, r_40_5, r_44_0, r_44_1, t_1, t_14, t_27, t_2, t_15, t_28, t_64, Nat.reduceEqDiff, ne_eq, not_false_eq_true, false_implies, true_implies, implies_true, Nat.reduceAdd, Nat.reduceLeDiff, Nat.reduceLT, Nat.reduceMul, or_true, true_or, if_true, if_false, not_true_eq_false, and_self, bF, Nat.reduceBEq, Bool.false_and, Bool.and_false, Bool.or_self, Bool.or_false, Bool.false_or, Bool.false_eq_true, Int.reduceAdd, Bool.and_self, Bool.true_and, Bool.and_true, beq_self_eq_true, not_not_, i10_, i01_, List.length_nil, List.length_cons, true_and, and_true, false_and, and_false, kl_i, kl_a, kl_n, kl_l, tl_s, tl_n, rv_S, pd_0, pd_e, pd_r, pd_i, pd_l, c4, b2i_t hh, tE isE1, tE2 isE1, rE6 isE1, rEH isE1 hj10, tEH isE1 hj10, vp10 hj10, nI_10 hj10, ic_2, g0, g1, g2, g3_, g4, g5_, g6, gy]
    refine ⟨fun q => ?_, fun q => ?_, fun q => ?_, fun q => ?_, fun q => ?_, fun q => ?_, fun q => ?_, fun q => ?_, fun q => ?_⟩
    iterate 8 (subst q; simp +decide only [if_true, if_false] at hK; exact hK h hG (frX_rf h))
    obtain ⟨⟨⟨⟨⟨⟨⟨q1_, q2_⟩, q3_⟩, q4_⟩, q5_⟩, q6_⟩, q7_⟩, q8_⟩ := q
    simp only [if_neg q1_, if_neg q2_, if_neg q3_, if_neg q4_, if_neg q5_, if_neg q6_, if_neg q7_, if_neg q8_, noG] at hK
    exact hK _ (simX_ref hI hG kc2) (frX_ref h _)
  · simp only [g_heirOf, if_neg hh, noG] at hK
    refine hJ 0 _ _ _ _ ?_
    simp only [z_X5_heirOf_0, u_X5_heirOf_0, u_X5_heirOf_16, u_X5_heirOf_72, u_X5_heirOf_77, u_X5_heirOf_82, u_X5_heirOf_87, u_X5_heirOf_92, u_X5_heirOf_97, u_X5_heirOf_102, u_X5_heirOf_107, u_X5_heirOf_119, j_X5_heirOf_16, j_X5_heirOf_72, j_X5_heirOf_77, j_X5_heirOf_82, j_X5_heirOf_87, j_X5_heirOf_92, j_X5_heirOf_97, j_X5_heirOf_102, j_X5_heirOf_107, j_X5_heirOf_119, ev_aload_n0, ev_iload_n1, ev_callV1, ev_if_ne, ev_sipush, ev_iret, ro_i, ro_z, ev_getfR, ev_aaload, ev_astore_n3, ev_iload_n2, ev_tableswitch, ev_sw1, ev_swc, ev_aload_n3, ev_getfI, ↓e_X1_age, ↓e_X5_isHeir, ↓e_X5_refuse, capO_z, kb_6, kb_11, kb_13, kb_15, kb_17, kb_18, kb_19, kb_23, kb_24, kb_25, kb_26, kb_29, kb_31, kb_35, kb_37, kb_41, kb_43, kb_44, kb_61, kb_75, kb_104, kb_7, kb_8, kb_9, kb_10, kb_12, kb_16, kb_20, kb_21, kb_30, kb_32, kb_40, kb_48, kb_50, kb_57, kb_59, kb_60, kb_63, kb_70, kb_78, kb_81, kb_82, kb_84, kb_97, kb_99, kb_100, kb_101, kb_119, kb_120, kb_122, ki_m1, ki_0, ki_1, ki_2, ki_3, ki_4, ki_5, ki_6, ki_7, ki_8, ki_9, ki_10, ki_11, ki_12, ki_13, ki_14, ki_15, ki_16, ki_17, ki_18, ki_19, ki_20, ki_21, ki_22, ki_23, ki_24, ki_25, ki_26, ki_27, ki_28, ki_29, ki_30, ki_31, ki_32, ki_33, ki_34, ki_35, ki_36, ki_37, ki_38, ki_39, ki_40, ki_41, ki_42, ki_43, ki_44, ki_45, ki_46, ki_47, ki_48, ki_49, ki_50, ki_51, ki_52, ki_53, ki_54, ki_55, ki_56, ki_57, ki_58, ki_59, ki_60, ki_61, ki_62, ki_63, ks_m2000, ks_m1006, ks_m1005, ks_m1004, ks_m1003, ks_m1002, ks_m1000, ks_200, ks_201, ks_300, ks_720, ks_9000, ks_10000, ks_250, ks_255, ks_256, ks_320, ks_660, ks_999, ks_1000, ks_9999, ks_12345, ne_2, ne_10, t_0, t_40, t_41, t_42, t_43, t_44, t_45, t_46, t_47, r_0_0, r_0_1, r_0_2, r_0_4, r_0_5, r_0_6, r_0_7, r_40_0, r_40_5, r_44_0, r_44_1, t_1, t_14, t_27, t_2, t_15, t_28, t_64, Nat.reduceEqDiff, ne_eq, not_false_eq_true, false_implies, true_implies, implies_true, Nat.reduceAdd, Nat.reduceLeDiff, Nat.reduceLT, Nat.reduceMul, or_true, true_or, if_true, if_false, not_true_eq_false, and_self, bF, Nat.reduceBEq, Bool.false_and, Bool.and_false, Bool.or_self, Bool.or_false, Bool.false_or, Bool.false_eq_true, Int.reduceAdd, Bool.and_self, Bool.true_and, Bool.and_true, beq_self_eq_true, not_not_, i10_, i01_, List.length_nil, List.length_cons, true_and, and_true, false_and, and_false, kl_i, kl_a, kl_n, kl_l, tl_s, tl_n, rv_S, pd_0, pd_e, pd_r, pd_i, pd_l, c4, b2i_f hh, ic_2]
    exact hK _ (simX_ref hI hG kc2) (frX_ref h _)
def P_X5_joyOf : Sp0T := fun as h K => match as with
  | [.ref x, .int t] => x = 0 ∧ XP h (fun G => g_joyOf G t) K
  | _ => False
def S_X5_joyOf : SpT := lift P_X5_joyOf
def L_X5_joyOf_26 : List Item := (26, .ireturn, [], nS) :: []
def L_X5_joyOf_19 : List Item := (19, .aload_n 0, [], nS) :: (20, .sipush (-1002), [], nS) :: (23, .invokevirtual 55, [1, 5, 0, 0], S_X5_refuse) :: L_X5_joyOf_26
def L_X5_joyOf_0 : List Item := (0, .iload_n 1, [], nS) :: (1, .invokestatic 141, [0, 1, 0, 0], S_X5_isThing) :: (4, .ifCond .eq 15, [19], nS) :: (7, .aload_n 0, [], nS) :: (8, .getfield 10, [5, 0, 1], nS) :: (11, .getfield 144, [0, 5, 1], nS) :: (14, .iload_n 1, [], nS) :: (15, .iaload, [], nS) :: (16, .goto 10, [26], nS) :: L_X5_joyOf_19
def L_X5_joyOf : List Item := L_X5_joyOf_0
theorem ok_X5_joyOf : okB cX5_joyOf L_X5_joyOf = true := by decide +kernel
theorem lk_X5_joyOf (l : Launch) : LKs l RX5 3 false L_X5_joyOf := ⟨trivial, Or.inl ⟨_, _, _, _, _, _, _, _, rfl, c_X5_isThing l, yv_X5_isThing, by decide, gT_of (List.mem_of_getElem? (i := 286) (by decide +kernel)) rfl⟩, trivial, trivial, ⟨_, _, _, rfl, ⟨(RX5, TX5, 8), rfl, by decide, gT_of (List.mem_of_getElem? (i := 191) (by decide +kernel)) rfl⟩, rfl⟩, ⟨_, _, _, rfl, ⟨(RX0, TX0, 7), rfl, by decide, gT_of (List.mem_of_getElem? (i := 111) (by decide +kernel)) rfl⟩, rfl⟩, trivial, trivial, trivial, trivial, trivial, ⟨_, _, _, _, _, _, _, _, _, rfl, c_X5_refuse l, Or.inl ⟨by decide, yv_X5_refuse⟩, by decide, gT_of (List.mem_of_getElem? (i := 226) (by decide +kernel)) rfl⟩, trivial, trivial⟩
theorem b_X5_joyOf_0 : atL L_X5_joyOf 0 = L_X5_joyOf_0 := rfl
theorem b_X5_joyOf_19 : atL L_X5_joyOf 19 = L_X5_joyOf_19 := rfl
theorem b_X5_joyOf_26 : atL L_X5_joyOf 26 = L_X5_joyOf_26 := rfl
theorem a_X5_joyOf_19 : afw L_X5_joyOf [] 19 = L_X5_joyOf_19 := rfl
theorem a_X5_joyOf_26 : afw L_X5_joyOf [] 26 = L_X5_joyOf_26 := rfl
theorem yv_X5_joyOf : YV yX5_joyOf cX5_joyOf 2 (some .int) 1 5 := ⟨⟨gT_of (List.mem_of_getElem? (i := 446) (by decide +kernel)) rfl, gT_of (List.mem_of_getElem? (i := 26) (by decide +kernel)) rfl, ⟨by decide, by decide⟩, by decide +kernel, by decide⟩, gT_of (List.mem_of_getElem? (i := 444) (by decide +kernel)) rfl, gT_of (List.mem_of_getElem? (i := 445) (by decide +kernel)) rfl, rfl⟩
theorem u_X5_joyOf_0 : L_X5_joyOf_0 = (0, .iload_n 1, [], nS) :: (1, .invokestatic 141, [0, 1, 0, 0], S_X5_isThing) :: (4, .ifCond .eq 15, [19], nS) :: (7, .aload_n 0, [], nS) :: (8, .getfield 10, [5, 0, 1], nS) :: (11, .getfield 144, [0, 5, 1], nS) :: (14, .iload_n 1, [], nS) :: (15, .iaload, [], nS) :: (16, .goto 10, [26], nS) :: L_X5_joyOf_19 := nr rfl
theorem u_X5_joyOf_19 : L_X5_joyOf_19 = (19, .aload_n 0, [], nS) :: (20, .sipush (-1002), [], nS) :: (23, .invokevirtual 55, [1, 5, 0, 0], S_X5_refuse) :: L_X5_joyOf_26 := nr rfl
theorem u_X5_joyOf_26 : L_X5_joyOf_26 = (26, .ireturn, [], nS) :: [] := nr rfl
theorem z_X5_joyOf_0 : atL L_X5_joyOf 0 = L_X5_joyOf_0 := nr rfl
theorem z_X5_joyOf_19 : atL L_X5_joyOf 19 = L_X5_joyOf_19 := nr rfl
theorem z_X5_joyOf_26 : atL L_X5_joyOf 26 = L_X5_joyOf_26 := nr rfl
theorem j_X5_joyOf_19 {G : List Item → SpS → List Value → List Value → AH → Prop} {J : Nat → SpS → List Value → List Value → AH → Prop} {S : SpS} {lv st : List Value} {h : AH} : jmp G J (afw L_X5_joyOf [] 19) 19 S lv st h = G L_X5_joyOf_19 S lv st h := nr rfl
theorem j_X5_joyOf_26 {G : List Item → SpS → List Value → List Value → AH → Prop} {J : Nat → SpS → List Value → List Value → AH → Prop} {S : SpS} {lv st : List Value} {h : AH} : jmp G J (afw L_X5_joyOf [] 26) 26 S lv st h = G L_X5_joyOf_26 S lv st h := nr rfl
theorem e_X5_joyOf {x : Addr} {t : Int32} {h : AH} {K2 : Option Value → SpS → AH → Prop} : S_X5_joyOf (SHn nn) [.ref x, .int t] h K2 = (fun (K : Option Value → AH → Prop) => x = 0 ∧ XP h (fun G => g_joyOf G t) K) (fun v h' => K2 v (SHn nn) h') := (lift_e P_X5_joyOf [.ref x, .int t] h K2).trans (nr rfl)
set_option maxRecDepth 100000 in
set_option maxHeartbeats 4000000 in
theorem c_X5_joyOf (l : Launch) : Ct l yX5_joyOf cX5_joyOf 2 (some .int) 3 0 0 S_X5_joyOf := by
  refine Ct0_mk L_X5_joyOf [] (by decide +kernel) (by decide) ok_X5_joyOf (lk_X5_joyOf l) ?_
  intro nn as h K hP
  match as, hP with
  | [.ref x, .int t], ⟨hx, G, hG, hI, hK⟩ =>
  refine ⟨by simp [slotsN, Value.category], fun J hJ => ?_⟩
  subst hx
  dsimp only at hK
  have hE : est h 1 = vE G := hG.1
  have ho := okG_ok hI
  have ho2 := okG_t hI
  have hn : cnt (vE G) ≤ 10 := okG_n hI
  have c4 : gI h 1 4 = nI (cnt (vE G)) := by rw [← hE]; exact est_c (hE ▸ ho)
  by_cases hh : inI t 7
  · simp only [g_joyOf, if_pos hh] at hK
    obtain ⟨j, hj, rfl⟩ := in7 hh
    have gj : gI h 2 j = eJ (vE G) j := by rw [← hE]; exact (est_j hj).symm
    rw [ix_n (by omega)] at hK
    refine hJ 0 _ _ _ _ ?_
    simp only [z_X5_joyOf_0, u_X5_joyOf_0, u_X5_joyOf_19, u_X5_joyOf_26, j_X5_joyOf_19, j_X5_joyOf_26, ev_iload_n1, ev_callS1, ev_if_eq, ev_aload_n0, ev_getfR, ev_iaload, ev_goto, ev_sipush, ev_callV1, ev_iret, ro_i, ro_z, ↓e_X5_isThing, ↓e_X5_refuse, capO_z, kb_6, kb_11, kb_13, kb_15, kb_17, kb_18, kb_19, kb_23, kb_24, kb_25, kb_26, kb_29, kb_31, kb_35, kb_37, kb_41, kb_43, kb_44, kb_61, kb_75, kb_104, kb_7, kb_8, kb_9, kb_10, kb_12, kb_16, kb_20, kb_21, kb_30, kb_32, kb_40, kb_48, kb_50, kb_57, kb_59, kb_60, kb_63, kb_70, kb_78, kb_81, kb_82, kb_84, kb_97, kb_99, kb_100, kb_101, kb_119, kb_120, kb_122, ki_m1, ki_0, ki_1, ki_2, ki_3, ki_4, ki_5, ki_6, ki_7, ki_8, ki_9, ki_10, ki_11, ki_12, ki_13, ki_14, ki_15, ki_16, ki_17, ki_18, ki_19, ki_20, ki_21, ki_22, ki_23, ki_24, ki_25, ki_26, ki_27, ki_28, ki_29, ki_30, ki_31, ki_32, ki_33, ki_34, ki_35, ki_36, ki_37, ki_38, ki_39, ki_40, ki_41, ki_42, ki_43, ki_44, ki_45, ki_46, ki_47, ki_48, ki_49, ki_50, ki_51, ki_52, ki_53, ki_54, ki_55, ki_56, ki_57, ki_58, ki_59, ki_60, ki_61, ki_62, ki_63, ks_m2000, ks_m1006, ks_m1005, ks_m1004, ks_m1003, ks_m1002, ks_m1000, ks_200, ks_201, ks_300, ks_720, ks_9000, ks_10000, ks_250, ks_255, ks_256, ks_320, ks_660, ks_999, ks_1000, ks_9999, ks_12345, ne_2, ne_10, t_0, t_40, t_41, t_42, t_43, t_44, t_45, t_46, t_47, r_0_0, r_0_1, r_0_2, r_0_4, r_0_5, r_0_6, r_0_7, r_40_0, r_40_5, r_44_0, r_44_1, t_1, t_14, t_27, t_2, t_15, t_28, t_64, Nat.reduceEqDiff, ne_eq, not_false_eq_true, false_implies, true_implies, implies_true, Nat.reduceAdd, Nat.reduceLeDiff, Nat.reduceLT, Nat.reduceMul, or_true, true_or, if_true, if_false, not_true_eq_false, and_self, bF, Nat.reduceBEq, Bool.false_and, Bool.and_false, Bool.or_self, Bool.or_false, Bool.false_or, Bool.false_eq_true, Int.reduceAdd, Bool.and_self, Bool.true_and, Bool.and_true, beq_self_eq_true, not_not_, i10_, i01_, List.length_nil, List.length_cons, true_and, and_true, false_and, and_false, kl_i, kl_a, kl_n, kl_l, tl_s, tl_n, rv_S, pd_0, pd_e, pd_r, pd_i, pd_l, b2i_t hh, vp8 hj, nI_10 (show j < 10 by omega), tE isE1, rE5 isE1, gj]
    exact hK h hG (frX_rf h)
  · simp only [g_joyOf, if_neg hh, noG] at hK
    refine hJ 0 _ _ _ _ ?_
    simp only [z_X5_joyOf_0, u_X5_joyOf_0, u_X5_joyOf_19, u_X5_joyOf_26, j_X5_joyOf_19, j_X5_joyOf_26, ev_iload_n1, ev_callS1, ev_if_eq, ev_aload_n0, ev_getfR, ev_iaload, ev_goto, ev_sipush, ev_callV1, ev_iret, ro_i, ro_z, ↓e_X5_isThing, ↓e_X5_refuse, capO_z, kb_6, kb_11, kb_13, kb_15, kb_17, kb_18, kb_19, kb_23, kb_24, kb_25, kb_26, kb_29, kb_31, kb_35, kb_37, kb_41, kb_43, kb_44, kb_61, kb_75, kb_104, kb_7, kb_8, kb_9, kb_10, kb_12, kb_16, kb_20, kb_21, kb_30, kb_32, kb_40, kb_48, kb_50, kb_57, kb_59, kb_60, kb_63, kb_70, kb_78, kb_81, kb_82, kb_84, kb_97, kb_99, kb_100, kb_101, kb_119, kb_120, kb_122, ki_m1, ki_0, ki_1, ki_2, ki_3, ki_4, ki_5, ki_6, ki_7, ki_8, ki_9, ki_10, ki_11, ki_12, ki_13, ki_14, ki_15, ki_16, ki_17, ki_18, ki_19, ki_20, ki_21, ki_22, ki_23, ki_24, ki_25, ki_26, ki_27, ki_28, ki_29, ki_30, ki_31, ki_32, ki_33, ki_34, ki_35, ki_36, ki_37, ki_38, ki_39, ki_40, ki_41, ki_42, ki_43, ki_44, ki_45, ki_46, ki_47, ki_48, ki_49, ki_50, ki_51, ki_52, ki_53, ki_54, ki_55, ki_56, ki_57, ki_58, ki_59, ki_60, ki_61, ki_62, ki_63, ks_m2000, ks_m1006, ks_m1005, ks_m1004, ks_m1003, ks_m1002, ks_m1000, ks_200, ks_201, ks_300, ks_720, ks_9000, ks_10000, ks_250, ks_255, ks_256, ks_320, ks_660, ks_999, ks_1000, ks_9999, ks_12345, ne_2, ne_10, t_0, t_40, t_41, t_42, t_43, t_44, t_45, t_46, t_47, r_0_0, r_0_1, r_0_2, r_0_4, r_0_5, r_0_6, r_0_7, r_40_0, r_40_5, r_44_0, r_44_1, t_1, t_14, t_27, t_2, t_15, t_28, t_64, Nat.reduceEqDiff, ne_eq, not_false_eq_true, false_implies, true_implies, implies_true, Nat.reduceAdd, Nat.reduceLeDiff, Nat.reduceLT, Nat.reduceMul, or_true, true_or, if_true, if_false, not_true_eq_false, and_self, bF, Nat.reduceBEq, Bool.false_and, Bool.and_false, Bool.or_self, Bool.or_false, Bool.false_or, Bool.false_eq_true, Int.reduceAdd, Bool.and_self, Bool.true_and, Bool.and_true, beq_self_eq_true, not_not_, i10_, i01_, List.length_nil, List.length_cons, true_and, and_true, false_and, and_false, kl_i, kl_a, kl_n, kl_l, tl_s, tl_n, rv_S, pd_0, pd_e, pd_r, pd_i, pd_l, b2i_f hh, ic_2]
    exact hK _ (simX_ref hI hG kc2) (frX_ref h _)