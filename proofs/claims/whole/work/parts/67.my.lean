/-! ===== the model's calls: births by draws, images, the tree ===== -/
theorem p10_2 (h : AH) (v : Int32) : gI (pI h 64 10 v) 64 2 = gI h 64 2 := gI_no (by omega)
theorem p10_1 (h : AH) (v : Int32) : gI (pI h 64 10 v) 65 1 = gI h 65 1 := gI_no (by omega)
theorem p10_s (h : AH) (v : Int32) : gI (pI h 64 10 v) 64 10 = v := gI_yes
theorem lt_04 : ((0 : Int32) < 4) = True := by decide
theorem lt_06 : ((0 : Int32) < 6) = True := by decide
theorem lt_010 : ((0 : Int32) < 10) = True := by decide
def P_X6_drawn : Sp0T := fun as h K => match as with
  | [.ref x, .int n] => x = 64 ∧ XM h (fun G => g_drawn G n) K
  | _ => False
def S_X6_drawn : SpT := lift P_X6_drawn
def L_X6_drawn_107 : List Item := (107, .iload_n 2, [], nS) :: (108, .ireturn, [], nS) :: []
def L_X6_drawn_94 : List Item := (94, .iload_n 2, [], nS) :: (95, .aload_n 0, [], nS) :: (96, .invokevirtual 211, [0, 6, 0, 0], S_X6_passes) :: (99, .iadd, [], nS) :: (100, .istore_n 2, [], nS) :: (101, .iinc 3 1, [], nS) :: (104, .goto (-82), [22], nS) :: L_X6_drawn_107
def L_X6_drawn_90 : List Item := (90, .invokevirtual 111, [4, 6, 0, 0], S_X6_newHeir) :: (93, .pop, [], nS) :: L_X6_drawn_94
def L_X6_drawn_82 : List Item := (82, .aload_n 0, [], nS) :: (83, .aload_n 0, [], nS) :: (84, .getfield 69, [6, 2, 0], nS) :: (87, .invokevirtual 290, [1, 6, 0, 0], S_X6_draw) :: L_X6_drawn_90
def L_X6_drawn_22 : List Item := (22, .iload_n 3, [], nS) :: (23, .iload_n 1, [], nS) :: (24, .if_icmp .ge 83, [107], nS) :: (27, .aload_n 0, [], nS) :: (28, .iconst 4, [], nS) :: (29, .invokevirtual 290, [1, 6, 0, 0], S_X6_draw) :: (32, .ifCond .ne 62, [94], nS) :: (35, .aload_n 0, [], nS) :: (36, .getfield 69, [6, 2, 0], nS) :: (39, .bipush 10, [], nS) :: (41, .if_icmp .ge 53, [94], nS) :: (44, .aload_n 0, [], nS) :: (45, .bipush 6, [], nS) :: (47, .invokevirtual 290, [1, 6, 0, 0], S_X6_draw) :: (50, .istore 4, [], nS) :: (52, .aload_n 0, [], nS) :: (53, .bipush 10, [], nS) :: (55, .invokevirtual 290, [1, 6, 0, 0], S_X6_draw) :: (58, .istore 5, [], nS) :: (60, .aload_n 0, [], nS) :: (61, .iload 4, [], nS) :: (63, .iload 5, [], nS) :: (65, .aload_n 0, [], nS) :: (66, .getfield 7, [6, 0, 1], nS) :: (69, .iconst 1, [], nS) :: (70, .iaload, [], nS) :: (71, .aload_n 0, [], nS) :: (72, .getfield 69, [6, 2, 0], nS) :: (75, .ifCond .ne 7, [82], nS) :: (78, .iconst (-1), [], nS) :: (79, .goto 11, [90], nS) :: L_X6_drawn_82
def L_X6_drawn_18 : List Item := (18, .iconst 0, [], nS) :: (19, .istore_n 2, [], nS) :: (20, .iconst 0, [], nS) :: (21, .istore_n 3, [], nS) :: (22, .nop, [], nS) :: L_X6_drawn_22
def L_X6_drawn_0 : List Item := (0, .iload_n 1, [], nS) :: (1, .iconst 1, [], nS) :: (2, .bipush 60, [], nS) :: (4, .invokestatic 72, [0, 3, 0, 0], S_X6_within) :: (7, .ifCond .ne 11, [18], nS) :: (10, .aload_n 0, [], nS) :: (11, .sipush (-1002), [], nS) :: (14, .invokevirtual 82, [1, 6, 0, 0], S_X6_no) :: (17, .ireturn, [], nS) :: L_X6_drawn_18
def L_X6_drawn : List Item := L_X6_drawn_0
theorem ok_X6_drawn : okB cX6_drawn L_X6_drawn = true := by decide +kernel
theorem lk_X6_drawn (l : Launch) : LKs l RX6 4 false L_X6_drawn := ⟨trivial, trivial, trivial, Or.inl ⟨_, _, _, _, _, _, _, _, rfl, c_X6_within l, yv_X6_within, by decide, gT_of (List.mem_of_getElem? (i := 1004) (by decide +kernel)) rfl⟩, trivial, trivial, trivial, ⟨_, _, _, _, _, _, _, _, _, rfl, c_X6_no l, Or.inl ⟨by decide, yv_X6_no⟩, by decide, gT_of (List.mem_of_getElem? (i := 1007) (by decide +kernel)) rfl⟩, trivial, trivial, trivial, trivial, trivial, trivial, trivial, trivial, trivial, trivial, trivial, ⟨_, _, _, _, _, _, _, _, _, rfl, c_X6_draw l, Or.inl ⟨by decide, yv_X6_draw⟩, by decide, gT_of (List.mem_of_getElem? (i := 1421) (by decide +kernel)) rfl⟩, trivial, trivial, ⟨_, _, _, rfl, ⟨(RX6, TX6, 26), rfl, by decide, gT_of (List.mem_of_getElem? (i := 920) (by decide +kernel)) rfl⟩, rfl⟩, trivial, trivial, trivial, trivial, ⟨_, _, _, _, _, _, _, _, _, rfl, c_X6_draw l, Or.inl ⟨by decide, yv_X6_draw⟩, by decide, gT_of (List.mem_of_getElem? (i := 1421) (by decide +kernel)) rfl⟩, trivial, trivial, trivial, ⟨_, _, _, _, _, _, _, _, _, rfl, c_X6_draw l, Or.inl ⟨by decide, yv_X6_draw⟩, by decide, gT_of (List.mem_of_getElem? (i := 1421) (by decide +kernel)) rfl⟩, trivial, trivial, trivial, trivial, trivial, ⟨_, _, _, rfl, ⟨(RX6, TX6, 26), rfl, by decide, gT_of (List.mem_of_getElem? (i := 918) (by decide +kernel)) rfl⟩, rfl⟩, trivial, trivial, trivial, ⟨_, _, _, rfl, ⟨(RX6, TX6, 26), rfl, by decide, gT_of (List.mem_of_getElem? (i := 920) (by decide +kernel)) rfl⟩, rfl⟩, trivial, trivial, trivial, trivial, trivial, ⟨_, _, _, rfl, ⟨(RX6, TX6, 26), rfl, by decide, gT_of (List.mem_of_getElem? (i := 920) (by decide +kernel)) rfl⟩, rfl⟩, ⟨_, _, _, _, _, _, _, _, _, rfl, c_X6_draw l, Or.inl ⟨by decide, yv_X6_draw⟩, by decide, gT_of (List.mem_of_getElem? (i := 1421) (by decide +kernel)) rfl⟩, ⟨_, _, _, _, _, _, _, _, _, rfl, c_X6_newHeir l, Or.inl ⟨by decide, yv_X6_newHeir⟩, by decide, gT_of (List.mem_of_getElem? (i := 1082) (by decide +kernel)) rfl⟩, trivial, trivial, trivial, ⟨_, _, _, _, _, _, _, _, _, rfl, c_X6_passes l, Or.inl ⟨by decide, yv_X6_passes⟩, by decide, gT_of (List.mem_of_getElem? (i := 1180) (by decide +kernel)) rfl⟩, trivial, trivial, trivial, trivial, trivial, trivial, trivial⟩
theorem b_X6_drawn_0 : atL L_X6_drawn 0 = L_X6_drawn_0 := rfl
theorem b_X6_drawn_18 : atL L_X6_drawn 18 = L_X6_drawn_18 := rfl
theorem b_X6_drawn_22 : atL L_X6_drawn 22 = L_X6_drawn_22 := rfl
theorem b_X6_drawn_82 : atL L_X6_drawn 82 = L_X6_drawn_82 := rfl
theorem b_X6_drawn_90 : atL L_X6_drawn 90 = L_X6_drawn_90 := rfl
theorem b_X6_drawn_94 : atL L_X6_drawn 94 = L_X6_drawn_94 := rfl
theorem b_X6_drawn_107 : atL L_X6_drawn 107 = L_X6_drawn_107 := rfl
theorem a_X6_drawn_18 : afw L_X6_drawn [22] 18 = L_X6_drawn_18 := rfl
theorem a_X6_drawn_82 : afw L_X6_drawn [22] 82 = L_X6_drawn_82 := rfl
theorem a_X6_drawn_90 : afw L_X6_drawn [22] 90 = L_X6_drawn_90 := rfl
theorem a_X6_drawn_94 : afw L_X6_drawn [22] 94 = L_X6_drawn_94 := rfl
theorem a_X6_drawn_107 : afw L_X6_drawn [22] 107 = L_X6_drawn_107 := rfl
theorem a_X6_drawn_22 : afw L_X6_drawn [22] 22 = [] := rfl
theorem yv_X6_drawn : YV yX6_drawn cX6_drawn 6 (some .int) 1 6 := ⟨⟨gT_of (List.mem_of_getElem? (i := 1420) (by decide +kernel)) rfl, gT_of (List.mem_of_getElem? (i := 74) (by decide +kernel)) rfl, ⟨by decide, by decide⟩, by decide +kernel, by decide⟩, gT_of (List.mem_of_getElem? (i := 1418) (by decide +kernel)) rfl, gT_of (List.mem_of_getElem? (i := 1419) (by decide +kernel)) rfl, rfl⟩
theorem u_X6_drawn_0 : L_X6_drawn_0 = (0, .iload_n 1, [], nS) :: (1, .iconst 1, [], nS) :: (2, .bipush 60, [], nS) :: (4, .invokestatic 72, [0, 3, 0, 0], S_X6_within) :: (7, .ifCond .ne 11, [18], nS) :: (10, .aload_n 0, [], nS) :: (11, .sipush (-1002), [], nS) :: (14, .invokevirtual 82, [1, 6, 0, 0], S_X6_no) :: (17, .ireturn, [], nS) :: L_X6_drawn_18 := nr rfl
theorem u_X6_drawn_18 : L_X6_drawn_18 = (18, .iconst 0, [], nS) :: (19, .istore_n 2, [], nS) :: (20, .iconst 0, [], nS) :: (21, .istore_n 3, [], nS) :: (22, .nop, [], nS) :: L_X6_drawn_22 := nr rfl
theorem u_X6_drawn_22 : L_X6_drawn_22 = (22, .iload_n 3, [], nS) :: (23, .iload_n 1, [], nS) :: (24, .if_icmp .ge 83, [107], nS) :: (27, .aload_n 0, [], nS) :: (28, .iconst 4, [], nS) :: (29, .invokevirtual 290, [1, 6, 0, 0], S_X6_draw) :: (32, .ifCond .ne 62, [94], nS) :: (35, .aload_n 0, [], nS) :: (36, .getfield 69, [6, 2, 0], nS) :: (39, .bipush 10, [], nS) :: (41, .if_icmp .ge 53, [94], nS) :: (44, .aload_n 0, [], nS) :: (45, .bipush 6, [], nS) :: (47, .invokevirtual 290, [1, 6, 0, 0], S_X6_draw) :: (50, .istore 4, [], nS) :: (52, .aload_n 0, [], nS) :: (53, .bipush 10, [], nS) :: (55, .invokevirtual 290, [1, 6, 0, 0], S_X6_draw) :: (58, .istore 5, [], nS) :: (60, .aload_n 0, [], nS) :: (61, .iload 4, [], nS) :: (63, .iload 5, [], nS) :: (65, .aload_n 0, [], nS) :: (66, .getfield 7, [6, 0, 1], nS) :: (69, .iconst 1, [], nS) :: (70, .iaload, [], nS) :: (71, .aload_n 0, [], nS) :: (72, .getfield 69, [6, 2, 0], nS) :: (75, .ifCond .ne 7, [82], nS) :: (78, .iconst (-1), [], nS) :: (79, .goto 11, [90], nS) :: L_X6_drawn_82 := nr rfl
theorem u_X6_drawn_82 : L_X6_drawn_82 = (82, .aload_n 0, [], nS) :: (83, .aload_n 0, [], nS) :: (84, .getfield 69, [6, 2, 0], nS) :: (87, .invokevirtual 290, [1, 6, 0, 0], S_X6_draw) :: L_X6_drawn_90 := nr rfl
theorem u_X6_drawn_90 : L_X6_drawn_90 = (90, .invokevirtual 111, [4, 6, 0, 0], S_X6_newHeir) :: (93, .pop, [], nS) :: L_X6_drawn_94 := nr rfl
theorem u_X6_drawn_94 : L_X6_drawn_94 = (94, .iload_n 2, [], nS) :: (95, .aload_n 0, [], nS) :: (96, .invokevirtual 211, [0, 6, 0, 0], S_X6_passes) :: (99, .iadd, [], nS) :: (100, .istore_n 2, [], nS) :: (101, .iinc 3 1, [], nS) :: (104, .goto (-82), [22], nS) :: L_X6_drawn_107 := nr rfl
theorem u_X6_drawn_107 : L_X6_drawn_107 = (107, .iload_n 2, [], nS) :: (108, .ireturn, [], nS) :: [] := nr rfl
theorem z_X6_drawn_0 : atL L_X6_drawn 0 = L_X6_drawn_0 := nr rfl
theorem z_X6_drawn_18 : atL L_X6_drawn 18 = L_X6_drawn_18 := nr rfl
theorem z_X6_drawn_22 : atL L_X6_drawn 22 = L_X6_drawn_22 := nr rfl
theorem z_X6_drawn_82 : atL L_X6_drawn 82 = L_X6_drawn_82 := nr rfl
theorem z_X6_drawn_90 : atL L_X6_drawn 90 = L_X6_drawn_90 := nr rfl
theorem z_X6_drawn_94 : atL L_X6_drawn 94 = L_X6_drawn_94 := nr rfl
theorem z_X6_drawn_107 : atL L_X6_drawn 107 = L_X6_drawn_107 := nr rfl
theorem j_X6_drawn_18 {G : List Item → SpS → List Value → List Value → AH → Prop} {J : Nat → SpS → List Value → List Value → AH → Prop} {S : SpS} {lv st : List Value} {h : AH} : jmp G J (afw L_X6_drawn [22] 18) 18 S lv st h = G L_X6_drawn_18 S lv st h := nr rfl
theorem j_X6_drawn_82 {G : List Item → SpS → List Value → List Value → AH → Prop} {J : Nat → SpS → List Value → List Value → AH → Prop} {S : SpS} {lv st : List Value} {h : AH} : jmp G J (afw L_X6_drawn [22] 82) 82 S lv st h = G L_X6_drawn_82 S lv st h := nr rfl
theorem j_X6_drawn_90 {G : List Item → SpS → List Value → List Value → AH → Prop} {J : Nat → SpS → List Value → List Value → AH → Prop} {S : SpS} {lv st : List Value} {h : AH} : jmp G J (afw L_X6_drawn [22] 90) 90 S lv st h = G L_X6_drawn_90 S lv st h := nr rfl
theorem j_X6_drawn_94 {G : List Item → SpS → List Value → List Value → AH → Prop} {J : Nat → SpS → List Value → List Value → AH → Prop} {S : SpS} {lv st : List Value} {h : AH} : jmp G J (afw L_X6_drawn [22] 94) 94 S lv st h = G L_X6_drawn_94 S lv st h := nr rfl
theorem j_X6_drawn_107 {G : List Item → SpS → List Value → List Value → AH → Prop} {J : Nat → SpS → List Value → List Value → AH → Prop} {S : SpS} {lv st : List Value} {h : AH} : jmp G J (afw L_X6_drawn [22] 107) 107 S lv st h = G L_X6_drawn_107 S lv st h := nr rfl
theorem j_X6_drawn_22 {G : List Item → SpS → List Value → List Value → AH → Prop} {J : Nat → SpS → List Value → List Value → AH → Prop} {S : SpS} {lv st : List Value} {h : AH} : jmp G J (afw L_X6_drawn [22] 22) 22 S lv st h = J 22 S lv st h := nr rfl
theorem e_X6_drawn {x : Addr} {n : Int32} {h : AH} {K2 : Option Value → SpS → AH → Prop} : S_X6_drawn SH0 [.ref x, .int n] h K2 = (fun (K : Option Value → AH → Prop) => x = 64 ∧ XM h (fun G => g_drawn G n) K) (fun v h' => K2 v SH0 h') := (lift_e P_X6_drawn [.ref x, .int n] h K2).trans (nr rfl)
set_option maxRecDepth 100000 in
set_option maxHeartbeats 4000000 in
theorem c_X6_drawn (l : Launch) : Ct l yX6_drawn cX6_drawn 6 (some .int) 4 0 0 S_X6_drawn := by
  refine Ct0_mk L_X6_drawn [22] (by decide +kernel) (by decide) ok_X6_drawn (lk_X6_drawn l) ?_
  intro as h K hP
  match as, hP with
  | [.ref x, .int n], ⟨hx, G, hG, hI, hK⟩ =>
  refine ⟨by simp [slotsN, Value.category], fun J hJ => ?_⟩
  subst hx
  dsimp only at hK
  have hE : estM h = vE G := hG.1
  have ho := okG_ok (okM_G hI)
  have ho2 := okG_t (okM_G hI)
  have hn : cnt (vE G) ≤ 10 := okG_n (okM_G hI)
  have c4 : gI h 64 2 = nI (cnt (vE G)) := by rw [← hE]; exact em_c (hE ▸ ho)
  by_cases hh : 1 ≤ n ∧ n ≤ 60
  · simp only [g_drawn, if_pos hh] at hK
    obtain ⟨m, hm, rfl⟩ := in_of (m := 60) (by omega) ⟨Int32.le_trans (show (0 : Int32) ≤ 1 by decide) hh.1, hh.2⟩
    rw [ix_m (j := m) (by omega)] at hK
    refine hJ 0 _ _ _ _ ?_
    simp only [z_X6_drawn_0, u_X6_drawn_0, u_X6_drawn_18, u_X6_drawn_22, u_X6_drawn_82, u_X6_drawn_90, u_X6_drawn_94, u_X6_drawn_107, j_X6_drawn_18, j_X6_drawn_22, j_X6_drawn_82, j_X6_drawn_90, j_X6_drawn_94, j_X6_drawn_107, ev_iload_n1, ev_iconst, ev_bipush, ev_callS3, ev_if_ne, ev_aload_n0, ev_sipush, ev_callV1, ev_iret, ro_i, ro_z, ev_istore_n2, ev_istore_n3, ev_nop, ev_iload_n3, ev_ic_ge, ev_getfI, ev_istore4, ev_istore5, ev_iload4, ev_iload5, ev_getfR, ev_iaload, ev_goto, ev_callV4, ev_pop_int, ev_pop_ref, ev_iload_n2, ev_callV0, ev_iadd, ev_iinc3, ↓e_X6_draw, ↓e_X6_newHeir, ↓e_X6_no, ↓e_X6_passes, ↓e_X6_within, vq3_0, vq3_1, vq3_2, cq_0, cq_1, cq_2, capO_z, kb_6, kb_7, kb_8, kb_9, kb_10, kb_12, kb_16, kb_20, kb_21, kb_30, kb_32, kb_40, kb_48, kb_50, kb_57, kb_59, kb_60, kb_63, kb_70, kb_78, kb_81, kb_82, kb_84, kb_97, kb_99, kb_100, kb_101, kb_119, kb_120, kb_122, ki_m1, ki_0, ki_1, ki_2, ki_3, ki_4, ki_5, ki_6, ki_7, ki_8, ki_9, ki_10, ki_11, ki_12, ki_13, ki_14, ki_15, ki_16, ki_17, ki_18, ki_19, ki_20, ki_21, ki_22, ki_23, ki_24, ki_25, ki_26, ki_27, ki_28, ki_29, ki_30, ki_31, ki_32, ki_33, ki_34, ki_35, ki_36, ki_37, ki_38, ki_39, ki_40, ki_41, ki_42, ki_43, ki_44, ki_45, ki_46, ki_47, ki_48, ki_49, ki_50, ki_51, ki_52, ki_53, ki_54, ki_55, ki_56, ki_57, ki_58, ki_59, ki_60, ki_61, ki_62, ki_63, ks_m2000, ks_m1006, ks_m1005, ks_m1004, ks_m1003, ks_m1002, ks_m1000, ks_200, ks_250, ks_255, ks_256, ks_320, ks_660, ks_999, ks_1000, ks_9999, ks_12345, ne_2, ne_10, t_0, t_40, t_41, t_42, t_43, t_44, t_45, t_46, t_47, t_64, t_65, t_66, t_67, t_68, t_69, t_70, t_71, t_72, t_73, t_74, t_75, t_76, t_77, t_78, t_79, t_80, t_81, t_82, r_0_0, r_0_1, r_0_2, r_0_4, r_0_5, r_0_6, r_0_7, r_40_0, r_40_5, r_44_0, r_44_1, r_64_0, r_64_1, r_64_3, r_64_4, r_64_5, r_64_6, r_64_7, r_64_8, r_64_9, r_64_12, r_64_17, r_64_18, r_64_19, r_64_20, r_64_22, r_64_23, r_64_24, r_64_25, t_1, t_14, t_27, t_2, t_15, t_28, Nat.reduceEqDiff, ne_eq, not_false_eq_true, false_implies, true_implies, implies_true, Nat.reduceAdd, Nat.reduceLeDiff, Nat.reduceLT, Nat.reduceMul, or_true, true_or, if_true, if_false, not_true_eq_false, and_self, bF, Nat.reduceBEq, Bool.false_and, Bool.and_false, Bool.or_self, Bool.or_false, Bool.false_or, Bool.false_eq_true, Int.reduceAdd, Bool.and_self, Bool.true_and, Bool.and_true, beq_self_eq_true, not_not_, i10_, i01_, List.length_nil, List.length_cons, true_and, and_true, false_and, and_false, kl_i, kl_a, kl_n, kl_l, tl_s, tl_n, rv_S, pd_0, pd_e, pd_r, pd_i, pd_l, b2i_t hh, one_z]
    refine dn (P := fun a => ∀ v4 v5 h', estM h' = (drawnN (vE G) a).1 → okE (drawnN (vE G) a).1 → frM h h' → J 22 SH0 [.ref 64, .int (nI m), .int (drawnN (vE G) a).2, .int (nI a), v4, v5] [] h') m ?_ (fun a ha ih v4 v5 h' hu hO hf => ?_) .null .null h hE ho (frM_rf h)
    · intro v4 v5 h' hu hO hf
      refine hJ 22 _ _ _ _ ?_
      simp only [z_X6_drawn_22, u_X6_drawn_0, u_X6_drawn_18, u_X6_drawn_22, u_X6_drawn_82, u_X6_drawn_90, u_X6_drawn_94, u_X6_drawn_107, j_X6_drawn_18, j_X6_drawn_22, j_X6_drawn_82, j_X6_drawn_90, j_X6_drawn_94, j_X6_drawn_107, ev_iload_n1, ev_iconst, ev_bipush, ev_callS3, ev_if_ne, ev_aload_n0, ev_sipush, ev_callV1, ev_iret, ro_i, ro_z, ev_istore_n2, ev_istore_n3, ev_nop, ev_iload_n3, ev_ic_ge, ev_getfI, ev_istore4, ev_istore5, ev_iload4, ev_iload5, ev_getfR, ev_iaload, ev_goto, ev_callV4, ev_pop_int, ev_pop_ref, ev_iload_n2, ev_callV0, ev_iadd, ev_iinc3, ↓e_X6_draw, ↓e_X6_newHeir, ↓e_X6_no, ↓e_X6_passes, ↓e_X6_within, vq3_0, vq3_1, vq3_2, cq_0, cq_1, cq_2, capO_z, kb_6, kb_7, kb_8, kb_9, kb_10, kb_12, kb_16, kb_20, kb_21, kb_30, kb_32, kb_40, kb_48, kb_50, kb_57, kb_59, kb_60, kb_63, kb_70, kb_78, kb_81, kb_82, kb_84, kb_97, kb_99, kb_100, kb_101, kb_119, kb_120, kb_122, ki_m1, ki_0, ki_1, ki_2, ki_3, ki_4, ki_5, ki_6, ki_7, ki_8, ki_9, ki_10, ki_11, ki_12, ki_13, ki_14, ki_15, ki_16, ki_17, ki_18, ki_19, ki_20, ki_21, ki_22, ki_23, ki_24, ki_25, ki_26, ki_27, ki_28, ki_29, ki_30, ki_31, ki_32, ki_33, ki_34, ki_35, ki_36, ki_37, ki_38, ki_39, ki_40, ki_41, ki_42, ki_43, ki_44, ki_45, ki_46, ki_47, ki_48, ki_49, ki_50, ki_51, ki_52, ki_53, ki_54, ki_55, ki_56, ki_57, ki_58, ki_59, ki_60, ki_61, ki_62, ki_63, ks_m2000, ks_m1006, ks_m1005, ks_m1004, ks_m1003, ks_m1002, ks_m1000, ks_200, ks_250, ks_255, ks_256, ks_320, ks_660, ks_999, ks_1000, ks_9999, ks_12345, ne_2, ne_10, t_0, t_40, t_41, t_42, t_43, t_44, t_45, t_46, t_47, t_64, t_65, t_66, t_67, t_68, t_69, t_70, t_71, t_72, t_73, t_74, t_75, t_76, t_77, t_78, t_79, t_80, t_81, t_82, r_0_0, r_0_1, r_0_2, r_0_4, r_0_5, r_0_6, r_0_7, r_40_0, r_40_5, r_44_0, r_44_1, r_64_0, r_64_1, r_64_3, r_64_4, r_64_5, r_64_6, r_64_7, r_64_8, r_64_9, r_64_12, r_64_17, r_64_18, r_64_19, r_64_20, r_64_22, r_64_23, r_64_24, r_64_25, t_1, t_14, t_27, t_2, t_15, t_28, Nat.reduceEqDiff, ne_eq, not_false_eq_true, false_implies, true_implies, implies_true, Nat.reduceAdd, Nat.reduceLeDiff, Nat.reduceLT, Nat.reduceMul, or_true, true_or, if_true, if_false, not_true_eq_false, and_self, bF, Nat.reduceBEq, Bool.false_and, Bool.and_false, Bool.or_self, Bool.or_false, Bool.false_or, Bool.false_eq_true, Int.reduceAdd, Bool.and_self, Bool.true_and, Bool.and_true, beq_self_eq_true, not_not_, i10_, i01_, List.length_nil, List.length_cons, true_and, and_true, false_and, and_false, kl_i, kl_a, kl_n, kl_l, tl_s, tl_n, rv_S, pd_0, pd_e, pd_r, pd_i, pd_l, lpT (show m < 2147483648 by omega)]
      exact hK h' (simM_E hG hu (frQ_M hf)) (frY_Q (frQ_M hf))
    · rw [drawnN_s, drawnS_1, drawnS_2] at ih
      generalize drawnN (vE G) a = D at *
      have c2 : gI h' 64 2 = nI (cnt D.1) := by rw [← hu]; exact em_c (by rw [hu]; exact hO)
      have s3 : gI h' 64 10 = eS D.1 3 := by rw [← hu]; rfl
      have next : ∀ v4 v5 h2, estM h2 = bornE D.1 → frM h h2 → okE (estM h2) ∧ ∀ h3, estM h3 = (passE (estM h2)).1 → frM h2 h3 → J 22 SH0 [.ref 64, .int (nI m), .int (D.2 + (passE (estM h2)).2), .int (nI (a + 1)), v4, v5] [] h3 := by
        intro v4 v5 h2 e2 f2
        have o2 : okE (estM h2) := by rw [e2]; exact ok_born hO
        refine ⟨o2, fun h3 e3 f3 => ?_⟩
        rw [e2] at e3 ⊢
        exact ih v4 v5 h3 e3 (by rw [← e2] at *; exact sameE_ok (same_passE _) o2) (frM_tr f2 f3)
      have y1 : gI h' 65 1 = eS D.1 1 := xm_s (k := 1) hu (by omega)
      have l10 : ((10 : Int32) ≤ nI (cnt D.1)) = ¬ cnt D.1 < 10 := by
        have := hO.2.1
        rw [le_ti, ti_10, nI_toInt (by omega)]
        exact propext ⟨fun z => by omega, fun z => by omega⟩
      refine hJ 22 _ _ _ _ ?_
      simp only [z_X6_drawn_22, u_X6_drawn_0, u_X6_drawn_18, u_X6_drawn_22, u_X6_drawn_82, u_X6_drawn_90, u_X6_drawn_94, u_X6_drawn_107, j_X6_drawn_18, j_X6_drawn_22, j_X6_drawn_82, j_X6_drawn_90, j_X6_drawn_94, j_X6_drawn_107, ev_iload_n1, ev_iconst, ev_bipush, ev_callS3, ev_if_ne, ev_aload_n0, ev_sipush, ev_callV1, ev_iret, ro_i, ro_z, ev_istore_n2, ev_istore_n3, ev_nop, ev_iload_n3, ev_ic_ge, ev_getfI, ev_istore4, ev_istore5, ev_iload4, ev_iload5, ev_getfR, ev_iaload, ev_goto, ev_callV4, ev_pop_int, ev_pop_ref, ev_iload_n2, ev_callV0, ev_iadd, ev_iinc3, ↓e_X6_draw, ↓e_X6_newHeir, ↓e_X6_no, ↓e_X6_passes, ↓e_X6_within, vq3_0, vq3_1, vq3_2, cq_0, cq_1, cq_2, capO_z, kb_6, kb_7, kb_8, kb_9, kb_10, kb_12, kb_16, kb_20, kb_21, kb_30, kb_32, kb_40, kb_48, kb_50, kb_57, kb_59, kb_60, kb_63, kb_70, kb_78, kb_81, kb_82, kb_84, kb_97, kb_99, kb_100, kb_101, kb_119, kb_120, kb_122, ki_m1, ki_0, ki_1, ki_2, ki_3, ki_4, ki_5, ki_6, ki_7, ki_8, ki_9, ki_10, ki_11, ki_12, ki_13, ki_14, ki_15, ki_16, ki_17, ki_18, ki_19, ki_20, ki_21, ki_22, ki_23, ki_24, ki_25, ki_26, ki_27, ki_28, ki_29, ki_30, ki_31, ki_32, ki_33, ki_34, ki_35, ki_36, ki_37, ki_38, ki_39, ki_40, ki_41, ki_42, ki_43, ki_44, ki_45, ki_46, ki_47, ki_48, ki_49, ki_50, ki_51, ki_52, ki_53, ki_54, ki_55, ki_56, ki_57, ki_58, ki_59, ki_60, ki_61, ki_62, ki_63, ks_m2000, ks_m1006, ks_m1005, ks_m1004, ks_m1003, ks_m1002, ks_m1000, ks_200, ks_250, ks_255, ks_256, ks_320, ks_660, ks_999, ks_1000, ks_9999, ks_12345, ne_2, ne_10, t_0, t_40, t_41, t_42, t_43, t_44, t_45, t_46, t_47, t_64, t_65, t_66, t_67, t_68, t_69, t_70, t_71, t_72, t_73, t_74, t_75, t_76, t_77, t_78, t_79, t_80, t_81, t_82, r_0_0, r_0_1, r_0_2, r_0_4, r_0_5, r_0_6, r_0_7, r_40_0, r_40_5, r_44_0, r_44_1, r_64_0, r_64_1, r_64_3, r_64_4, r_64_5, r_64_6, r_64_7, r_64_8, r_64_9, r_64_12, r_64_17, r_64_18, r_64_19, r_64_20, r_64_22, r_64_23, r_64_24, r_64_25, t_1, t_14, t_27, t_2, t_15, t_28, Nat.reduceEqDiff, ne_eq, not_false_eq_true, false_implies, true_implies, implies_true, Nat.reduceAdd, Nat.reduceLeDiff, Nat.reduceLT, Nat.reduceMul, or_true, true_or, if_true, if_false, not_true_eq_false, and_self, bF, Nat.reduceBEq, Bool.false_and, Bool.and_false, Bool.or_self, Bool.or_false, Bool.false_or, Bool.false_eq_true, Int.reduceAdd, Bool.and_self, Bool.true_and, Bool.and_true, beq_self_eq_true, not_not_, i10_, i01_, List.length_nil, List.length_cons, true_and, and_true, false_and, and_false, kl_i, kl_a, kl_n, kl_l, tl_s, tl_n, rv_S, pd_0, pd_e, pd_r, pd_i, pd_l, lpF ha (show m < 2147483648 by omega), s3, p10_2, p10_1, p10_s, em_p3, hu, sS_sS, c2, y1, lt_04, lt_06, lt_010, l10, nI_1, cnt_s3]
      intro a1 d1 es1 ed1
      have isq : isM 64 10 := Or.inr (by omega)
      have nxt0 : (¬ d1 = 0 ∨ ¬ cnt D.1 < 10) → okE (sS D.1 3 a1) ∧ ∀ h3, estM h3 = (passE (sS D.1 3 a1)).1 → frM (pI h' 64 10 a1) h3 → J 22 SH0 [.ref 64, .int (nI m), .int (D.2 + (passE (sS D.1 3 a1)).2), .int (nI (a + 1)), v4, v5] [] h3 := fun z => by
        have eb : bornE D.1 = sS D.1 3 a1 := by unfold bornE; rw [← es1, ← ed1, if_pos z]
        have := next v4 v5 (pI h' 64 10 a1) (by rw [em_p3, hu, eb]) (frM_p hf isq)
        rw [em_p3, hu] at this
        exact this
      refine ⟨fun q => nxt0 (Or.inl q), fun q => ⟨fun q2 => nxt0 (Or.inr q2), fun q2 a2 d2 es2 ed2 a3 d3 es3 ed3 => ⟨fun q3 => ⟨?_, fun a4 d4 es4 ed4 => ⟨okE_sS3 hO _, q2, fun h2 e2 f2 => next _ _ h2 ?_ (frM_tr (frM_p (frM_p (frM_p (frM_p hf isq) isq) isq) isq) f2)⟩⟩, fun q3 => ⟨okE_sS3 hO _, q2, fun h2 e2 f2 => next _ _ h2 ?_ (frM_tr (frM_p (frM_p (frM_p hf isq) isq) isq) f2)⟩⟩⟩⟩
      · rw [nz_pos (by have := hO.2.1; omega)]; exact q3
      · have cp : 0 < cnt D.1 := by
          by_cases z : cnt D.1 = 0
          · rw [z] at q3; exact absurd rfl q3
          · omega
        rw [e2]; unfold bornE
        rw [hO.1, ← es1, ← es2, ← es3, ← es4, ← ed1, ← ed2, ← ed3, ← ed4, if_neg (fun z => z.elim (fun y => y q) (fun y => y q2)), if_pos cp]
      · have cp : ¬ 0 < cnt D.1 := fun z => by
          rw [show (0 : Int32) = nI 0 from rfl, nI_inj (by omega) (by omega)] at q3
          omega
        rw [e2]; unfold bornE
        rw [← es1, ← es2, ← es3, ← ed1, ← ed2, ← ed3, if_neg (fun z => z.elim (fun y => y q) (fun y => y q2)), if_neg cp]
  · simp only [g_drawn, if_neg hh, noG] at hK
    refine hJ 0 _ _ _ _ ?_
    simp only [z_X6_drawn_0, u_X6_drawn_0, u_X6_drawn_18, u_X6_drawn_22, u_X6_drawn_82, u_X6_drawn_90, u_X6_drawn_94, u_X6_drawn_107, j_X6_drawn_18, j_X6_drawn_22, j_X6_drawn_82, j_X6_drawn_90, j_X6_drawn_94, j_X6_drawn_107, ev_iload_n1, ev_iconst, ev_bipush, ev_callS3, ev_if_ne, ev_aload_n0, ev_sipush, ev_callV1, ev_iret, ro_i, ro_z, ev_istore_n2, ev_istore_n3, ev_nop, ev_iload_n3, ev_ic_ge, ev_getfI, ev_istore4, ev_istore5, ev_iload4, ev_iload5, ev_getfR, ev_iaload, ev_goto, ev_callV4, ev_pop_int, ev_pop_ref, ev_iload_n2, ev_callV0, ev_iadd, ev_iinc3, ↓e_X6_draw, ↓e_X6_newHeir, ↓e_X6_no, ↓e_X6_passes, ↓e_X6_within, vq3_0, vq3_1, vq3_2, cq_0, cq_1, cq_2, capO_z, kb_6, kb_7, kb_8, kb_9, kb_10, kb_12, kb_16, kb_20, kb_21, kb_30, kb_32, kb_40, kb_48, kb_50, kb_57, kb_59, kb_60, kb_63, kb_70, kb_78, kb_81, kb_82, kb_84, kb_97, kb_99, kb_100, kb_101, kb_119, kb_120, kb_122, ki_m1, ki_0, ki_1, ki_2, ki_3, ki_4, ki_5, ki_6, ki_7, ki_8, ki_9, ki_10, ki_11, ki_12, ki_13, ki_14, ki_15, ki_16, ki_17, ki_18, ki_19, ki_20, ki_21, ki_22, ki_23, ki_24, ki_25, ki_26, ki_27, ki_28, ki_29, ki_30, ki_31, ki_32, ki_33, ki_34, ki_35, ki_36, ki_37, ki_38, ki_39, ki_40, ki_41, ki_42, ki_43, ki_44, ki_45, ki_46, ki_47, ki_48, ki_49, ki_50, ki_51, ki_52, ki_53, ki_54, ki_55, ki_56, ki_57, ki_58, ki_59, ki_60, ki_61, ki_62, ki_63, ks_m2000, ks_m1006, ks_m1005, ks_m1004, ks_m1003, ks_m1002, ks_m1000, ks_200, ks_250, ks_255, ks_256, ks_320, ks_660, ks_999, ks_1000, ks_9999, ks_12345, ne_2, ne_10, t_0, t_40, t_41, t_42, t_43, t_44, t_45, t_46, t_47, t_64, t_65, t_66, t_67, t_68, t_69, t_70, t_71, t_72, t_73, t_74, t_75, t_76, t_77, t_78, t_79, t_80, t_81, t_82, r_0_0, r_0_1, r_0_2, r_0_4, r_0_5, r_0_6, r_0_7, r_40_0, r_40_5, r_44_0, r_44_1, r_64_0, r_64_1, r_64_3, r_64_4, r_64_5, r_64_6, r_64_7, r_64_8, r_64_9, r_64_12, r_64_17, r_64_18, r_64_19, r_64_20, r_64_22, r_64_23, r_64_24, r_64_25, t_1, t_14, t_27, t_2, t_15, t_28, Nat.reduceEqDiff, ne_eq, not_false_eq_true, false_implies, true_implies, implies_true, Nat.reduceAdd, Nat.reduceLeDiff, Nat.reduceLT, Nat.reduceMul, or_true, true_or, if_true, if_false, not_true_eq_false, and_self, bF, Nat.reduceBEq, Bool.false_and, Bool.and_false, Bool.or_self, Bool.or_false, Bool.false_or, Bool.false_eq_true, Int.reduceAdd, Bool.and_self, Bool.true_and, Bool.and_true, beq_self_eq_true, not_not_, i10_, i01_, List.length_nil, List.length_cons, true_and, and_true, false_and, and_false, kl_i, kl_a, kl_n, kl_l, tl_s, tl_n, rv_S, pd_0, pd_e, pd_r, pd_i, pd_l, b2i_f hh, zero_z, ic_2]
    exact hK _ (simM_ref hI hG kc2) (frY_ref h _)
def P_X6_image : Sp0T := fun as h K => match as with
  | [.ref x] => x = 64 ∧ XM h (fun G => g_image G) K
  | _ => False
def S_X6_image : SpT := lift P_X6_image
def L_X6_image_0 : List Item := (0, .aload_n 0, [], nS) :: (1, .iconst 1, [], nS) :: (2, .putfield 293, [6, 21, 0], nS) :: (5, .aload_n 0, [], nS) :: (6, .aload_n 0, [], nS) :: (7, .getfield 53, [6, 22, 1], nS) :: (10, .invokevirtual 176, [1, 6, 0, 0], S_X6_keep) :: (13, .iconst 1, [], nS) :: (14, .ireturn, [], nS) :: []
def L_X6_image : List Item := L_X6_image_0
theorem ok_X6_image : okB cX6_image L_X6_image = true := by decide +kernel
theorem lk_X6_image (l : Launch) : LKs l RX6 2 false L_X6_image := ⟨trivial, trivial, ⟨_, _, _, rfl, ⟨(RX6, TX6, 26), rfl, by decide, gT_of (List.mem_of_getElem? (i := 939) (by decide +kernel)) rfl⟩, rfl, fun q => absurd rfl q⟩, trivial, trivial, ⟨_, _, _, rfl, ⟨(RX6, TX6, 26), rfl, by decide, gT_of (List.mem_of_getElem? (i := 940) (by decide +kernel)) rfl⟩, rfl⟩, ⟨_, _, _, _, _, _, _, _, _, rfl, c_X6_keep l, Or.inl ⟨by decide, yv_X6_keep⟩, by decide, gT_of (List.mem_of_getElem? (i := 1098) (by decide +kernel)) rfl⟩, trivial, trivial, trivial⟩
theorem b_X6_image_0 : atL L_X6_image 0 = L_X6_image_0 := rfl
theorem yv_X6_image : YV yX6_image cX6_image 1 (some .int) 0 6 := ⟨⟨gT_of (List.mem_of_getElem? (i := 1433) (by decide +kernel)) rfl, gT_of (List.mem_of_getElem? (i := 74) (by decide +kernel)) rfl, ⟨by decide, by decide⟩, by decide +kernel, by decide⟩, gT_of (List.mem_of_getElem? (i := 1431) (by decide +kernel)) rfl, gT_of (List.mem_of_getElem? (i := 1432) (by decide +kernel)) rfl, rfl⟩
theorem u_X6_image_0 : L_X6_image_0 = (0, .aload_n 0, [], nS) :: (1, .iconst 1, [], nS) :: (2, .putfield 293, [6, 21, 0], nS) :: (5, .aload_n 0, [], nS) :: (6, .aload_n 0, [], nS) :: (7, .getfield 53, [6, 22, 1], nS) :: (10, .invokevirtual 176, [1, 6, 0, 0], S_X6_keep) :: (13, .iconst 1, [], nS) :: (14, .ireturn, [], nS) :: [] := nr rfl
theorem z_X6_image_0 : atL L_X6_image 0 = L_X6_image_0 := nr rfl
theorem e_X6_image {x : Addr} {h : AH} {K2 : Option Value → SpS → AH → Prop} : S_X6_image SH0 [.ref x] h K2 = (fun (K : Option Value → AH → Prop) => x = 64 ∧ XM h (fun G => g_image G) K) (fun v h' => K2 v SH0 h') := (lift_e P_X6_image [.ref x] h K2).trans (nr rfl)
set_option maxRecDepth 100000 in
set_option maxHeartbeats 4000000 in
theorem c_X6_image (l : Launch) : Ct l yX6_image cX6_image 1 (some .int) 2 0 0 S_X6_image := by
  refine Ct0_mk L_X6_image [] (by decide +kernel) (by decide) ok_X6_image (lk_X6_image l) ?_
  intro as h K hP
  match as, hP with
  | [.ref x], ⟨hx, G, hG, hI, hK⟩ =>
  refine ⟨by simp [slotsN, Value.category], fun J hJ => ?_⟩
  subst hx
  dsimp only at hK
  have hE : estM h = vE G := hG.1
  have ho := okG_ok (okM_G hI)
  have ho2 := okG_t (okM_G hI)
  have hn : cnt (vE G) ≤ 10 := okG_n (okM_G hI)
  have c4 : gI h 64 2 = nI (cnt (vE G)) := by rw [← hE]; exact em_c (hE ▸ ho)
  unfold g_image at hK
  have e0 : estM (pI h 64 21 1) = vE G := (em_fr (fun c k hc => gI_no (by unfold isM at hc; omega))).trans hE
  refine hJ 0 _ _ _ _ ?_
  simp only [z_X6_image_0, u_X6_image_0, ev_aload_n0, ev_iconst, ev_putfI, ev_getfR, ev_callV1, ev_iret, ro_i, ro_z, ↓e_X6_keep, vq3_0, vq3_1, vq3_2, cq_0, cq_1, cq_2, capO_z, kb_6, kb_7, kb_8, kb_9, kb_10, kb_12, kb_16, kb_20, kb_21, kb_30, kb_32, kb_40, kb_48, kb_50, kb_57, kb_59, kb_60, kb_63, kb_70, kb_78, kb_81, kb_82, kb_84, kb_97, kb_99, kb_100, kb_101, kb_119, kb_120, kb_122, ki_m1, ki_0, ki_1, ki_2, ki_3, ki_4, ki_5, ki_6, ki_7, ki_8, ki_9, ki_10, ki_11, ki_12, ki_13, ki_14, ki_15, ki_16, ki_17, ki_18, ki_19, ki_20, ki_21, ki_22, ki_23, ki_24, ki_25, ki_26, ki_27, ki_28, ki_29, ki_30, ki_31, ki_32, ki_33, ki_34, ki_35, ki_36, ki_37, ki_38, ki_39, ki_40, ki_41, ki_42, ki_43, ki_44, ki_45, ki_46, ki_47, ki_48, ki_49, ki_50, ki_51, ki_52, ki_53, ki_54, ki_55, ki_56, ki_57, ki_58, ki_59, ki_60, ki_61, ki_62, ki_63, ks_m2000, ks_m1006, ks_m1005, ks_m1004, ks_m1003, ks_m1002, ks_m1000, ks_200, ks_250, ks_255, ks_256, ks_320, ks_660, ks_999, ks_1000, ks_9999, ks_12345, ne_2, ne_10, t_0, t_40, t_41, t_42, t_43, t_44, t_45, t_46, t_47, t_64, t_65, t_66, t_67, t_68, t_69, t_70, t_71, t_72, t_73, t_74, t_75, t_76, t_77, t_78, t_79, t_80, t_81, t_82, r_0_0, r_0_1, r_0_2, r_0_4, r_0_5, r_0_6, r_0_7, r_40_0, r_40_5, r_44_0, r_44_1, r_64_0, r_64_1, r_64_3, r_64_4, r_64_5, r_64_6, r_64_7, r_64_8, r_64_9, r_64_12, r_64_17, r_64_18, r_64_19, r_64_20, r_64_22, r_64_23, r_64_24, r_64_25, t_1, t_14, t_27, t_2, t_15, t_28, Nat.reduceEqDiff, ne_eq, not_false_eq_true, false_implies, true_implies, implies_true, Nat.reduceAdd, Nat.reduceLeDiff, Nat.reduceLT, Nat.reduceMul, or_true, true_or, if_true, if_false, not_true_eq_false, and_self, bF, Nat.reduceBEq, Bool.false_and, Bool.and_false, Bool.or_self, Bool.or_false, Bool.false_or, Bool.false_eq_true, Int.reduceAdd, Bool.and_self, Bool.true_and, Bool.and_true, beq_self_eq_true, not_not_, i10_, i01_, List.length_nil, List.length_cons, true_and, and_true, false_and, and_false, kl_i, kl_a, kl_n, kl_l, tl_s, tl_n, rv_S, pd_0, pd_e, pd_r, pd_i, pd_l]
  refine ⟨79, rfl, isA79, by rw [e0]; exact ho, fun h1 k1 k2 k3 => ?_⟩
  have f1 : ∀ c k, c ≠ 79 → ¬ (c = 64 ∧ k = 21) → gI h1 c k = gI h c k := fun c k hc h2 => by rw [k2 c k hc, gI_no (by omega)]
  obtain ⟨q1, q2, q3, q4, q5⟩ := hG
  refine hK h1 ⟨?_, ⟨?_, fun _ => ?_⟩, ⟨(f1 64 11 (by omega) (by omega)).trans q3.1, fun i hi => ?_⟩, fun s hs => ⟨?_, fun z => ⟨?_, fun j hj => ?_⟩⟩, fun k hk => ?_⟩ ⟨fun c k hc => f1 c k (by omega) (by omega), fun c k _ => k3 c k⟩
  · exact (em_fr (fun c k hc => f1 c k (by unfold isM at hc; omega) (by unfold isM at hc; omega))).trans hE
  · rw [k2 _ _ (by omega), gI_yes]; rfl
  · rw [k1, e0]; rfl
  · rw [f1 _ _ (by omega) (by omega)]; exact q3.2 i hi
  · rw [f1 _ _ (by omega) (by omega)]; exact (q4 s hs).1
  · rw [f1 _ _ (by omega) (by omega)]; exact ((q4 s hs).2 z).1
  · rw [k3]; exact ((q4 s hs).2 z).2 j hj
  · rw [f1 _ _ (by omega) (by omega)]; exact q5 k hk
theorem back_m {G : GV} {K : ES} {s : Nat} (hn : cnt (vE G) ≤ 10) (hs : goodS G s) (hk : cnt K ≤ 10) : (vH G s < 10 + nI (cnt K) → backH K (vH G) s = vH G s) ∧ (¬ vH G s < 10 + nI (cnt K) → backH K (vH G) s = -1) := by
  have e10 : (10 : Int32) + nI (cnt K) = nI (10 + cnt K) := nI_ad 10 _
  rw [e10]
  unfold backH
  rcases goodS_row hn hs with ⟨q, q2⟩ | ⟨q, q2, q3, -⟩ | ⟨q, q2, q3, j, hj, q4⟩
  · rw [q]
    refine ⟨fun _ => if_neg (fun z => absurd z.1 (by decide)), fun z => ?_⟩
    exact absurd (Int32.lt_of_lt_of_le (show (-1 : Int32) < 0 by decide) (nI_pos' (by omega))) z
  · refine ⟨fun _ => if_neg (fun z => q3 z.1), fun z => ?_⟩
    exact absurd (Int32.lt_of_le_of_lt q.2 (Int32.not_le.mp (nI_ge (b := 10 + cnt K) (a := 4) (by omega) (by omega)))) z
  · have ej : vH G s = nI (10 + j) := by rw [q4]; exact nI_ad 10 j
    have es : vH G s - 10 = nI j := by rw [q4, Int32.add_comm, Int32.add_sub_cancel]
    have lt : (nI (10 + j) < nI (10 + cnt K)) = (j < cnt K) := by
      rw [lt_ti, nI_toInt (by omega), nI_toInt (by omega)]
      exact propext ⟨fun z => by omega, fun z => by omega⟩
    rw [es, ej, lt]
    rw [ej] at q
    refine ⟨fun z => if_neg (fun y => y.2 (heir_is hk z)), fun z => if_pos ⟨q, fun y => z ?_⟩⟩
    obtain ⟨j2, h1, h2⟩ := heir_of hk y
    rw [nI_inj (by omega) (by omega)] at h2
    omega
theorem backH_row {E : ES} {H : Nat → Int32} {s : Nat} (z : inI (backH E H s) 4) : backH E H s = H s := by
  unfold backH at z ⊢
  by_cases y : 10 ≤ H s ∧ ¬ inI (H s - 10) (nI (cnt E) - 1)
  · rw [if_pos y] at z; exact absurd z.1 (by decide)
  · rw [if_neg y]
def P_X6_back : Sp0T := fun as h K => match as with
  | [.ref x] => x = 64 ∧ XM h (fun G => g_back G) K
  | _ => False
def S_X6_back : SpT := lift P_X6_back
def L_X6_back_60 : List Item := (60, .iconst 1, [], nS) :: (61, .ireturn, [], nS) :: []
def L_X6_back_54 : List Item := (54, .iinc 1 1, [], nS) :: (57, .goto (-32), [25], nS) :: L_X6_back_60
def L_X6_back_25 : List Item := (25, .iload_n 1, [], nS) :: (26, .bipush 8, [], nS) :: (28, .if_icmp .ge 32, [60], nS) :: (31, .aload_n 0, [], nS) :: (32, .getfield 40, [6, 17, 1], nS) :: (35, .iload_n 1, [], nS) :: (36, .iaload, [], nS) :: (37, .bipush 10, [], nS) :: (39, .aload_n 0, [], nS) :: (40, .getfield 69, [6, 2, 0], nS) :: (43, .iadd, [], nS) :: (44, .if_icmp .lt 10, [54], nS) :: (47, .aload_n 0, [], nS) :: (48, .getfield 40, [6, 17, 1], nS) :: (51, .iload_n 1, [], nS) :: (52, .iconst (-1), [], nS) :: (53, .iastore, [], nS) :: L_X6_back_54
def L_X6_back_15 : List Item := (15, .aload_n 0, [], nS) :: (16, .aload_n 0, [], nS) :: (17, .getfield 53, [6, 22, 1], nS) :: (20, .invokevirtual 184, [1, 6, 0, 0], S_X6_again) :: (23, .iconst 0, [], nS) :: (24, .istore_n 1, [], nS) :: (25, .nop, [], nS) :: L_X6_back_25
def L_X6_back_0 : List Item := (0, .aload_n 0, [], nS) :: (1, .getfield 293, [6, 21, 0], nS) :: (4, .ifCond .ne 11, [15], nS) :: (7, .aload_n 0, [], nS) :: (8, .sipush (-1005), [], nS) :: (11, .invokevirtual 82, [1, 6, 0, 0], S_X6_no) :: (14, .ireturn, [], nS) :: L_X6_back_15
def L_X6_back : List Item := L_X6_back_0
theorem ok_X6_back : okB cX6_back L_X6_back = true := by decide +kernel
theorem lk_X6_back (l : Launch) : LKs l RX6 2 false L_X6_back := ⟨trivial, ⟨_, _, _, rfl, ⟨(RX6, TX6, 26), rfl, by decide, gT_of (List.mem_of_getElem? (i := 939) (by decide +kernel)) rfl⟩, rfl⟩, trivial, trivial, trivial, ⟨_, _, _, _, _, _, _, _, _, rfl, c_X6_no l, Or.inl ⟨by decide, yv_X6_no⟩, by decide, gT_of (List.mem_of_getElem? (i := 1007) (by decide +kernel)) rfl⟩, trivial, trivial, trivial, ⟨_, _, _, rfl, ⟨(RX6, TX6, 26), rfl, by decide, gT_of (List.mem_of_getElem? (i := 940) (by decide +kernel)) rfl⟩, rfl⟩, ⟨_, _, _, _, _, _, _, _, _, rfl, c_X6_again l, Or.inl ⟨by decide, yv_X6_again⟩, by decide, gT_of (List.mem_of_getElem? (i := 1141) (by decide +kernel)) rfl⟩, trivial, trivial, trivial, trivial, trivial, trivial, trivial, ⟨_, _, _, rfl, ⟨(RX6, TX6, 26), rfl, by decide, gT_of (List.mem_of_getElem? (i := 935) (by decide +kernel)) rfl⟩, rfl⟩, trivial, trivial, trivial, trivial, ⟨_, _, _, rfl, ⟨(RX6, TX6, 26), rfl, by decide, gT_of (List.mem_of_getElem? (i := 920) (by decide +kernel)) rfl⟩, rfl⟩, trivial, trivial, trivial, ⟨_, _, _, rfl, ⟨(RX6, TX6, 26), rfl, by decide, gT_of (List.mem_of_getElem? (i := 935) (by decide +kernel)) rfl⟩, rfl⟩, trivial, trivial, trivial, trivial, trivial, trivial, trivial, trivial⟩
theorem b_X6_back_0 : atL L_X6_back 0 = L_X6_back_0 := rfl
theorem b_X6_back_15 : atL L_X6_back 15 = L_X6_back_15 := rfl
theorem b_X6_back_25 : atL L_X6_back 25 = L_X6_back_25 := rfl
theorem b_X6_back_54 : atL L_X6_back 54 = L_X6_back_54 := rfl
theorem b_X6_back_60 : atL L_X6_back 60 = L_X6_back_60 := rfl
theorem a_X6_back_15 : afw L_X6_back [25] 15 = L_X6_back_15 := rfl
theorem a_X6_back_54 : afw L_X6_back [25] 54 = L_X6_back_54 := rfl
theorem a_X6_back_60 : afw L_X6_back [25] 60 = L_X6_back_60 := rfl
theorem a_X6_back_25 : afw L_X6_back [25] 25 = [] := rfl
theorem yv_X6_back : YV yX6_back cX6_back 2 (some .int) 0 6 := ⟨⟨gT_of (List.mem_of_getElem? (i := 1437) (by decide +kernel)) rfl, gT_of (List.mem_of_getElem? (i := 74) (by decide +kernel)) rfl, ⟨by decide, by decide⟩, by decide +kernel, by decide⟩, gT_of (List.mem_of_getElem? (i := 1435) (by decide +kernel)) rfl, gT_of (List.mem_of_getElem? (i := 1436) (by decide +kernel)) rfl, rfl⟩
theorem u_X6_back_0 : L_X6_back_0 = (0, .aload_n 0, [], nS) :: (1, .getfield 293, [6, 21, 0], nS) :: (4, .ifCond .ne 11, [15], nS) :: (7, .aload_n 0, [], nS) :: (8, .sipush (-1005), [], nS) :: (11, .invokevirtual 82, [1, 6, 0, 0], S_X6_no) :: (14, .ireturn, [], nS) :: L_X6_back_15 := nr rfl
theorem u_X6_back_15 : L_X6_back_15 = (15, .aload_n 0, [], nS) :: (16, .aload_n 0, [], nS) :: (17, .getfield 53, [6, 22, 1], nS) :: (20, .invokevirtual 184, [1, 6, 0, 0], S_X6_again) :: (23, .iconst 0, [], nS) :: (24, .istore_n 1, [], nS) :: (25, .nop, [], nS) :: L_X6_back_25 := nr rfl
theorem u_X6_back_25 : L_X6_back_25 = (25, .iload_n 1, [], nS) :: (26, .bipush 8, [], nS) :: (28, .if_icmp .ge 32, [60], nS) :: (31, .aload_n 0, [], nS) :: (32, .getfield 40, [6, 17, 1], nS) :: (35, .iload_n 1, [], nS) :: (36, .iaload, [], nS) :: (37, .bipush 10, [], nS) :: (39, .aload_n 0, [], nS) :: (40, .getfield 69, [6, 2, 0], nS) :: (43, .iadd, [], nS) :: (44, .if_icmp .lt 10, [54], nS) :: (47, .aload_n 0, [], nS) :: (48, .getfield 40, [6, 17, 1], nS) :: (51, .iload_n 1, [], nS) :: (52, .iconst (-1), [], nS) :: (53, .iastore, [], nS) :: L_X6_back_54 := nr rfl
theorem u_X6_back_54 : L_X6_back_54 = (54, .iinc 1 1, [], nS) :: (57, .goto (-32), [25], nS) :: L_X6_back_60 := nr rfl
theorem u_X6_back_60 : L_X6_back_60 = (60, .iconst 1, [], nS) :: (61, .ireturn, [], nS) :: [] := nr rfl
theorem z_X6_back_0 : atL L_X6_back 0 = L_X6_back_0 := nr rfl
theorem z_X6_back_15 : atL L_X6_back 15 = L_X6_back_15 := nr rfl
theorem z_X6_back_25 : atL L_X6_back 25 = L_X6_back_25 := nr rfl
theorem z_X6_back_54 : atL L_X6_back 54 = L_X6_back_54 := nr rfl
theorem z_X6_back_60 : atL L_X6_back 60 = L_X6_back_60 := nr rfl
theorem j_X6_back_15 {G : List Item → SpS → List Value → List Value → AH → Prop} {J : Nat → SpS → List Value → List Value → AH → Prop} {S : SpS} {lv st : List Value} {h : AH} : jmp G J (afw L_X6_back [25] 15) 15 S lv st h = G L_X6_back_15 S lv st h := nr rfl
theorem j_X6_back_54 {G : List Item → SpS → List Value → List Value → AH → Prop} {J : Nat → SpS → List Value → List Value → AH → Prop} {S : SpS} {lv st : List Value} {h : AH} : jmp G J (afw L_X6_back [25] 54) 54 S lv st h = G L_X6_back_54 S lv st h := nr rfl
theorem j_X6_back_60 {G : List Item → SpS → List Value → List Value → AH → Prop} {J : Nat → SpS → List Value → List Value → AH → Prop} {S : SpS} {lv st : List Value} {h : AH} : jmp G J (afw L_X6_back [25] 60) 60 S lv st h = G L_X6_back_60 S lv st h := nr rfl
theorem j_X6_back_25 {G : List Item → SpS → List Value → List Value → AH → Prop} {J : Nat → SpS → List Value → List Value → AH → Prop} {S : SpS} {lv st : List Value} {h : AH} : jmp G J (afw L_X6_back [25] 25) 25 S lv st h = J 25 S lv st h := nr rfl
theorem e_X6_back {x : Addr} {h : AH} {K2 : Option Value → SpS → AH → Prop} : S_X6_back SH0 [.ref x] h K2 = (fun (K : Option Value → AH → Prop) => x = 64 ∧ XM h (fun G => g_back G) K) (fun v h' => K2 v SH0 h') := (lift_e P_X6_back [.ref x] h K2).trans (nr rfl)
set_option maxRecDepth 100000 in
set_option maxHeartbeats 4000000 in
theorem c_X6_back (l : Launch) : Ct l yX6_back cX6_back 2 (some .int) 2 0 0 S_X6_back := by
  refine Ct0_mk L_X6_back [25] (by decide +kernel) (by decide) ok_X6_back (lk_X6_back l) ?_
  intro as h K hP
  match as, hP with
  | [.ref x], ⟨hx, G, hG, hI, hK⟩ =>
  refine ⟨by simp [slotsN, Value.category], fun J hJ => ?_⟩
  subst hx
  dsimp only at hK
  have hE : estM h = vE G := hG.1
  have ho := okG_ok (okM_G hI)
  have ho2 := okG_t (okM_G hI)
  have hn : cnt (vE G) ≤ 10 := okG_n (okM_G hI)
  have c4 : gI h 64 2 = nI (cnt (vE G)) := by rw [← hE]; exact em_c (hE ▸ ho)
  have hk := hG.2.1
  by_cases hh : vK G = 1
  · have e3 : gI h 64 21 = 1 := hk.1.trans hh
    have eK := hk.2 hh
    obtain ⟨oK, nK⟩ := okG_k (okM_G hI) hh
    simp only [g_back, if_pos hh] at hK
    refine hJ 0 _ _ _ _ ?_
    simp only [z_X6_back_0, u_X6_back_0, u_X6_back_15, u_X6_back_25, u_X6_back_54, u_X6_back_60, j_X6_back_15, j_X6_back_25, j_X6_back_54, j_X6_back_60, ev_aload_n0, ev_getfI, ev_if_ne, ev_sipush, ev_callV1, ev_iret, ro_i, ro_z, ev_getfR, ev_iconst, ev_istore_n1, ev_nop, ev_iload_n1, ev_bipush, ev_ic_ge, ev_iaload, ev_iadd, ev_ic_lt, ev_iastore, ev_iinc1, ev_goto, ↓e_X6_again, ↓e_X6_no, vq3_0, vq3_1, vq3_2, cq_0, cq_1, cq_2, capO_z, kb_6, kb_7, kb_8, kb_9, kb_10, kb_12, kb_16, kb_20, kb_21, kb_30, kb_32, kb_40, kb_48, kb_50, kb_57, kb_59, kb_60, kb_63, kb_70, kb_78, kb_81, kb_82, kb_84, kb_97, kb_99, kb_100, kb_101, kb_119, kb_120, kb_122, ki_m1, ki_0, ki_1, ki_2, ki_3, ki_4, ki_5, ki_6, ki_7, ki_8, ki_9, ki_10, ki_11, ki_12, ki_13, ki_14, ki_15, ki_16, ki_17, ki_18, ki_19, ki_20, ki_21, ki_22, ki_23, ki_24, ki_25, ki_26, ki_27, ki_28, ki_29, ki_30, ki_31, ki_32, ki_33, ki_34, ki_35, ki_36, ki_37, ki_38, ki_39, ki_40, ki_41, ki_42, ki_43, ki_44, ki_45, ki_46, ki_47, ki_48, ki_49, ki_50, ki_51, ki_52, ki_53, ki_54, ki_55, ki_56, ki_57, ki_58, ki_59, ki_60, ki_61, ki_62, ki_63, ks_m2000, ks_m1006, ks_m1005, ks_m1004, ks_m1003, ks_m1002, ks_m1000, ks_200, ks_250, ks_255, ks_256, ks_320, ks_660, ks_999, ks_1000, ks_9999, ks_12345, ne_2, ne_10, t_0, t_40, t_41, t_42, t_43, t_44, t_45, t_46, t_47, t_64, t_65, t_66, t_67, t_68, t_69, t_70, t_71, t_72, t_73, t_74, t_75, t_76, t_77, t_78, t_79, t_80, t_81, t_82, r_0_0, r_0_1, r_0_2, r_0_4, r_0_5, r_0_6, r_0_7, r_40_0, r_40_5, r_44_0, r_44_1, r_64_0, r_64_1, r_64_3, r_64_4, r_64_5, r_64_6, r_64_7, r_64_8, r_64_9, r_64_12, r_64_17, r_64_18, r_64_19, r_64_20, r_64_22, r_64_23, r_64_24, r_64_25, t_1, t_14, t_27, t_2, t_15, t_28, Nat.reduceEqDiff, ne_eq, not_false_eq_true, false_implies, true_implies, implies_true, Nat.reduceAdd, Nat.reduceLeDiff, Nat.reduceLT, Nat.reduceMul, or_true, true_or, if_true, if_false, not_true_eq_false, and_self, bF, Nat.reduceBEq, Bool.false_and, Bool.and_false, Bool.or_self, Bool.or_false, Bool.false_or, Bool.false_eq_true, Int.reduceAdd, Bool.and_self, Bool.true_and, Bool.and_true, beq_self_eq_true, not_not_, i10_, i01_, List.length_nil, List.length_cons, true_and, and_true, false_and, and_false, kl_i, kl_a, kl_n, kl_l, tl_s, tl_n, rv_S, pd_0, pd_e, pd_r, pd_i, pd_l, e3, one_z]
    refine ⟨79, rfl, isA79, by rw [eK]; exact oK, fun h1 e1 f1 => ?_⟩
    rw [eK] at e1
    have c1 : gI h1 64 2 = nI (cnt (vKE G)) := by rw [← e1]; exact em_c (e1.symm ▸ oK)
    refine dn (P := fun a => ∀ h', (∀ c k, ¬ isM c k → c ≠ 75 → gI h' c k = gI h c k) → (∀ c k, isM c k → gI h' c k = gI h1 c k) → (∀ c k, gJ h' c k = gJ h c k) → (∀ u, u < 8 → gI h' 75 u = if u < a then backH (vKE G) (vH G) u else vH G u) → J 25 SH0 [.ref 64, .int (nI a)] [] h') 8 ?_ (fun a ha ih h' a1 a2 a3 a4 => ?_) h1 (fun c k hc _ => f1.1 c k hc) (fun _ _ _ => rfl) f1.2 (fun u hu => by rw [if_neg (by omega), f1.1 75 u (by unfold isM; omega)]; exact (hG.2.2.2.1 u hu).1)
    · intro h' a1 a2 a3 a4
      refine hJ 25 _ _ _ _ ?_
      simp only [z_X6_back_25, u_X6_back_0, u_X6_back_15, u_X6_back_25, u_X6_back_54, u_X6_back_60, j_X6_back_15, j_X6_back_25, j_X6_back_54, j_X6_back_60, ev_aload_n0, ev_getfI, ev_if_ne, ev_sipush, ev_callV1, ev_iret, ro_i, ro_z, ev_getfR, ev_iconst, ev_istore_n1, ev_nop, ev_iload_n1, ev_bipush, ev_ic_ge, ev_iaload, ev_iadd, ev_ic_lt, ev_iastore, ev_iinc1, ev_goto, ↓e_X6_again, ↓e_X6_no, vq3_0, vq3_1, vq3_2, cq_0, cq_1, cq_2, capO_z, kb_6, kb_7, kb_8, kb_9, kb_10, kb_12, kb_16, kb_20, kb_21, kb_30, kb_32, kb_40, kb_48, kb_50, kb_57, kb_59, kb_60, kb_63, kb_70, kb_78, kb_81, kb_82, kb_84, kb_97, kb_99, kb_100, kb_101, kb_119, kb_120, kb_122, ki_m1, ki_0, ki_1, ki_2, ki_3, ki_4, ki_5, ki_6, ki_7, ki_8, ki_9, ki_10, ki_11, ki_12, ki_13, ki_14, ki_15, ki_16, ki_17, ki_18, ki_19, ki_20, ki_21, ki_22, ki_23, ki_24, ki_25, ki_26, ki_27, ki_28, ki_29, ki_30, ki_31, ki_32, ki_33, ki_34, ki_35, ki_36, ki_37, ki_38, ki_39, ki_40, ki_41, ki_42, ki_43, ki_44, ki_45, ki_46, ki_47, ki_48, ki_49, ki_50, ki_51, ki_52, ki_53, ki_54, ki_55, ki_56, ki_57, ki_58, ki_59, ki_60, ki_61, ki_62, ki_63, ks_m2000, ks_m1006, ks_m1005, ks_m1004, ks_m1003, ks_m1002, ks_m1000, ks_200, ks_250, ks_255, ks_256, ks_320, ks_660, ks_999, ks_1000, ks_9999, ks_12345, ne_2, ne_10, t_0, t_40, t_41, t_42, t_43, t_44, t_45, t_46, t_47, t_64, t_65, t_66, t_67, t_68, t_69, t_70, t_71, t_72, t_73, t_74, t_75, t_76, t_77, t_78, t_79, t_80, t_81, t_82, r_0_0, r_0_1, r_0_2, r_0_4, r_0_5, r_0_6, r_0_7, r_40_0, r_40_5, r_44_0, r_44_1, r_64_0, r_64_1, r_64_3, r_64_4, r_64_5, r_64_6, r_64_7, r_64_8, r_64_9, r_64_12, r_64_17, r_64_18, r_64_19, r_64_20, r_64_22, r_64_23, r_64_24, r_64_25, t_1, t_14, t_27, t_2, t_15, t_28, Nat.reduceEqDiff, ne_eq, not_false_eq_true, false_implies, true_implies, implies_true, Nat.reduceAdd, Nat.reduceLeDiff, Nat.reduceLT, Nat.reduceMul, or_true, true_or, if_true, if_false, not_true_eq_false, and_self, bF, Nat.reduceBEq, Bool.false_and, Bool.and_false, Bool.or_self, Bool.or_false, Bool.false_or, Bool.false_eq_true, Int.reduceAdd, Bool.and_self, Bool.true_and, Bool.and_true, beq_self_eq_true, not_not_, i10_, i01_, List.length_nil, List.length_cons, true_and, and_true, false_and, and_false, kl_i, kl_a, kl_n, kl_l, tl_s, tl_n, rv_S, pd_0, pd_e, pd_r, pd_i, pd_l, show ((8 : Int32) ≤ nI 8) = True by decide]
      have f0 : ∀ c k, ¬ isM c k → c ≠ 75 → gI h' c k = gI h c k := a1
      have nM : ∀ c k, ¬ ((65 ≤ c ∧ c ≤ 73) ∨ (c = 64 ∧ (k = 2 ∨ k = 10))) → c ≠ 75 → gI h' c k = gI h c k := a1
      obtain ⟨q1, q2, q3, q4, q5⟩ := hG
      refine hK h' ⟨(em_fr a2).trans e1, ⟨(nM 64 21 (by omega) (by omega)).trans q2.1, fun z => ?_⟩, ⟨(nM 64 11 (by omega) (by omega)).trans q3.1, fun i hi => ?_⟩, fun s hs => ⟨?_, fun z => ⟨?_, fun j hj => ?_⟩⟩, fun k hk2 => ?_⟩ ⟨fun c k hc => nM c k (by omega) (by omega), fun c k _ => a3 c k⟩
      · show estA h' 79 = vKE G
        rw [ea_fr (fun k => nM 79 k (by omega) (by omega))]; exact q2.2 z
      · rw [nM _ _ (by omega) (by omega)]; exact q3.2 i hi
      · rw [a4 s hs, if_pos hs]; rfl
      · rw [nM _ _ (by omega) (by omega)]
        exact ((q4 s hs).2 (by rw [← backH_row z]; exact z)).1
      · rw [a3]
        exact ((q4 s hs).2 (by rw [← backH_row z]; exact z)).2 j hj
      · rw [nM _ _ (by omega) (by omega)]; exact q5 k hk2
    · have b1 : gI h' 64 2 = nI (cnt (vKE G)) := by rw [a2 64 2 (Or.inr (by omega))]; exact c1
      have b2 : gI h' 75 a = vH G a := by rw [a4 a ha, if_neg (by omega)]
      refine hJ 25 _ _ _ _ ?_
      simp only [z_X6_back_25, u_X6_back_0, u_X6_back_15, u_X6_back_25, u_X6_back_54, u_X6_back_60, j_X6_back_15, j_X6_back_25, j_X6_back_54, j_X6_back_60, ev_aload_n0, ev_getfI, ev_if_ne, ev_sipush, ev_callV1, ev_iret, ro_i, ro_z, ev_getfR, ev_iconst, ev_istore_n1, ev_nop, ev_iload_n1, ev_bipush, ev_ic_ge, ev_iaload, ev_iadd, ev_ic_lt, ev_iastore, ev_iinc1, ev_goto, ↓e_X6_again, ↓e_X6_no, vq3_0, vq3_1, vq3_2, cq_0, cq_1, cq_2, capO_z, kb_6, kb_7, kb_8, kb_9, kb_10, kb_12, kb_16, kb_20, kb_21, kb_30, kb_32, kb_40, kb_48, kb_50, kb_57, kb_59, kb_60, kb_63, kb_70, kb_78, kb_81, kb_82, kb_84, kb_97, kb_99, kb_100, kb_101, kb_119, kb_120, kb_122, ki_m1, ki_0, ki_1, ki_2, ki_3, ki_4, ki_5, ki_6, ki_7, ki_8, ki_9, ki_10, ki_11, ki_12, ki_13, ki_14, ki_15, ki_16, ki_17, ki_18, ki_19, ki_20, ki_21, ki_22, ki_23, ki_24, ki_25, ki_26, ki_27, ki_28, ki_29, ki_30, ki_31, ki_32, ki_33, ki_34, ki_35, ki_36, ki_37, ki_38, ki_39, ki_40, ki_41, ki_42, ki_43, ki_44, ki_45, ki_46, ki_47, ki_48, ki_49, ki_50, ki_51, ki_52, ki_53, ki_54, ki_55, ki_56, ki_57, ki_58, ki_59, ki_60, ki_61, ki_62, ki_63, ks_m2000, ks_m1006, ks_m1005, ks_m1004, ks_m1003, ks_m1002, ks_m1000, ks_200, ks_250, ks_255, ks_256, ks_320, ks_660, ks_999, ks_1000, ks_9999, ks_12345, ne_2, ne_10, t_0, t_40, t_41, t_42, t_43, t_44, t_45, t_46, t_47, t_64, t_65, t_66, t_67, t_68, t_69, t_70, t_71, t_72, t_73, t_74, t_75, t_76, t_77, t_78, t_79, t_80, t_81, t_82, r_0_0, r_0_1, r_0_2, r_0_4, r_0_5, r_0_6, r_0_7, r_40_0, r_40_5, r_44_0, r_44_1, r_64_0, r_64_1, r_64_3, r_64_4, r_64_5, r_64_6, r_64_7, r_64_8, r_64_9, r_64_12, r_64_17, r_64_18, r_64_19, r_64_20, r_64_22, r_64_23, r_64_24, r_64_25, t_1, t_14, t_27, t_2, t_15, t_28, Nat.reduceEqDiff, ne_eq, not_false_eq_true, false_implies, true_implies, implies_true, Nat.reduceAdd, Nat.reduceLeDiff, Nat.reduceLT, Nat.reduceMul, or_true, true_or, if_true, if_false, not_true_eq_false, and_self, bF, Nat.reduceBEq, Bool.false_and, Bool.and_false, Bool.or_self, Bool.or_false, Bool.false_or, Bool.false_eq_true, Int.reduceAdd, Bool.and_self, Bool.true_and, Bool.and_true, beq_self_eq_true, not_not_, i10_, i01_, List.length_nil, List.length_cons, true_and, and_true, false_and, and_false, kl_i, kl_a, kl_n, kl_l, tl_s, tl_n, rv_S, pd_0, pd_e, pd_r, pd_i, pd_l, lp8F ha, vp8 ha, nI_clamp (show a < 2 ^ 31 by omega), b1, b2, nI_1]
      obtain ⟨bm1, bm2⟩ := back_m hn (okG_h (okM_G hI) ha) nK
      refine ⟨fun q => ih h' a1 a2 a3 (fun u hu => ?_), fun q => ih _ (fun c k hc h75 => by rw [gI_no (by omega)]; exact a1 c k hc h75) (fun c k hc => by rw [gI_no (by unfold isM at hc; omega)]; exact a2 c k hc) a3 (fun u hu => ?_)⟩
      · rw [a4 u hu]
        by_cases z : u = a
        · rw [z, if_neg (by omega), if_pos (by omega)]; exact (bm1 q).symm
        · exact ite_iff (by omega) _ _
      · by_cases z : u = a
        · rw [z, gI_yes, if_pos (by omega)]; exact (bm2 q).symm
        · rw [gI_no (by omega), a4 u hu]; exact ite_iff (by omega) _ _
  · have e3 : (gI h 64 21 = 0) = True := by
      rw [hk.1]
      exact eq_true ((okG_0 (okM_G hI)).resolve_right hh)
    simp only [g_back, if_neg hh, noG] at hK
    refine hJ 0 _ _ _ _ ?_
    simp only [z_X6_back_0, u_X6_back_0, u_X6_back_15, u_X6_back_25, u_X6_back_54, u_X6_back_60, j_X6_back_15, j_X6_back_25, j_X6_back_54, j_X6_back_60, ev_aload_n0, ev_getfI, ev_if_ne, ev_sipush, ev_callV1, ev_iret, ro_i, ro_z, ev_getfR, ev_iconst, ev_istore_n1, ev_nop, ev_iload_n1, ev_bipush, ev_ic_ge, ev_iaload, ev_iadd, ev_ic_lt, ev_iastore, ev_iinc1, ev_goto, ↓e_X6_again, ↓e_X6_no, vq3_0, vq3_1, vq3_2, cq_0, cq_1, cq_2, capO_z, kb_6, kb_7, kb_8, kb_9, kb_10, kb_12, kb_16, kb_20, kb_21, kb_30, kb_32, kb_40, kb_48, kb_50, kb_57, kb_59, kb_60, kb_63, kb_70, kb_78, kb_81, kb_82, kb_84, kb_97, kb_99, kb_100, kb_101, kb_119, kb_120, kb_122, ki_m1, ki_0, ki_1, ki_2, ki_3, ki_4, ki_5, ki_6, ki_7, ki_8, ki_9, ki_10, ki_11, ki_12, ki_13, ki_14, ki_15, ki_16, ki_17, ki_18, ki_19, ki_20, ki_21, ki_22, ki_23, ki_24, ki_25, ki_26, ki_27, ki_28, ki_29, ki_30, ki_31, ki_32, ki_33, ki_34, ki_35, ki_36, ki_37, ki_38, ki_39, ki_40, ki_41, ki_42, ki_43, ki_44, ki_45, ki_46, ki_47, ki_48, ki_49, ki_50, ki_51, ki_52, ki_53, ki_54, ki_55, ki_56, ki_57, ki_58, ki_59, ki_60, ki_61, ki_62, ki_63, ks_m2000, ks_m1006, ks_m1005, ks_m1004, ks_m1003, ks_m1002, ks_m1000, ks_200, ks_250, ks_255, ks_256, ks_320, ks_660, ks_999, ks_1000, ks_9999, ks_12345, ne_2, ne_10, t_0, t_40, t_41, t_42, t_43, t_44, t_45, t_46, t_47, t_64, t_65, t_66, t_67, t_68, t_69, t_70, t_71, t_72, t_73, t_74, t_75, t_76, t_77, t_78, t_79, t_80, t_81, t_82, r_0_0, r_0_1, r_0_2, r_0_4, r_0_5, r_0_6, r_0_7, r_40_0, r_40_5, r_44_0, r_44_1, r_64_0, r_64_1, r_64_3, r_64_4, r_64_5, r_64_6, r_64_7, r_64_8, r_64_9, r_64_12, r_64_17, r_64_18, r_64_19, r_64_20, r_64_22, r_64_23, r_64_24, r_64_25, t_1, t_14, t_27, t_2, t_15, t_28, Nat.reduceEqDiff, ne_eq, not_false_eq_true, false_implies, true_implies, implies_true, Nat.reduceAdd, Nat.reduceLeDiff, Nat.reduceLT, Nat.reduceMul, or_true, true_or, if_true, if_false, not_true_eq_false, and_self, bF, Nat.reduceBEq, Bool.false_and, Bool.and_false, Bool.or_self, Bool.or_false, Bool.false_or, Bool.false_eq_true, Int.reduceAdd, Bool.and_self, Bool.true_and, Bool.and_true, beq_self_eq_true, not_not_, i10_, i01_, List.length_nil, List.length_cons, true_and, and_true, false_and, and_false, kl_i, kl_a, kl_n, kl_l, tl_s, tl_n, rv_S, pd_0, pd_e, pd_r, pd_i, pd_l, e3, ic_5]
    exact hK _ (simM_ref hI hG kc5) (frY_ref h _)
