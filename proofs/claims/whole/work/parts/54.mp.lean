/-! ===== the model's HEIRS: what is seen of them ===== -/
theorem em_c4 {h : AH} {n : Nat} (h4 : gI h 64 2 = nI n) (hn : n ≤ 10) : cnt (estM h) = n := by rw [em_n, h4, nI_clamp (by omega)]
def P_X6_age : Sp0T := fun as h K => match as with
  | [.ref x, .int v] => x = 64 ∧ ∃ i : Nat, i < cnt (estM h) ∧ i < 10 ∧ v = nI i ∧ K (some (.int (eS (estM h) 1 - eF (estM h) i 3))) h
  | _ => False
def S_X6_age : SpT := lift P_X6_age
def L_X6_age_0 : List Item := (0, .aload_n 0, [], nS) :: (1, .getfield 7, [6, 0, 1], nS) :: (4, .iconst 1, [], nS) :: (5, .iaload, [], nS) :: (6, .aload_n 0, [], nS) :: (7, .getfield 25, [6, 6, 1], nS) :: (10, .iload_n 1, [], nS) :: (11, .iaload, [], nS) :: (12, .isub, [], nS) :: (13, .ireturn, [], nS) :: []
def L_X6_age : List Item := L_X6_age_0
theorem ok_X6_age : okB cX6_age L_X6_age = true := by decide +kernel
theorem lk_X6_age (l : Launch) : LKs l RX6 1 false L_X6_age := ⟨trivial, ⟨_, _, _, rfl, ⟨(RX6, TX6, 26), rfl, by decide, gT_of (List.mem_of_getElem? (i := 918) (by decide +kernel)) rfl⟩, rfl⟩, trivial, trivial, trivial, ⟨_, _, _, rfl, ⟨(RX6, TX6, 26), rfl, by decide, gT_of (List.mem_of_getElem? (i := 924) (by decide +kernel)) rfl⟩, rfl⟩, trivial, trivial, trivial, trivial, trivial⟩
theorem b_X6_age_0 : atL L_X6_age 0 = L_X6_age_0 := rfl
theorem yv_X6_age : YV yX6_age cX6_age 2 (some .int) 1 6 := ⟨⟨gT_of (List.mem_of_getElem? (i := 1152) (by decide +kernel)) rfl, gT_of (List.mem_of_getElem? (i := 74) (by decide +kernel)) rfl, ⟨by decide, by decide⟩, by decide +kernel, by decide⟩, gT_of (List.mem_of_getElem? (i := 1151) (by decide +kernel)) rfl, gT_of (List.mem_of_getElem? (i := 41) (by decide +kernel)) rfl, rfl⟩
theorem u_X6_age_0 : L_X6_age_0 = (0, .aload_n 0, [], nS) :: (1, .getfield 7, [6, 0, 1], nS) :: (4, .iconst 1, [], nS) :: (5, .iaload, [], nS) :: (6, .aload_n 0, [], nS) :: (7, .getfield 25, [6, 6, 1], nS) :: (10, .iload_n 1, [], nS) :: (11, .iaload, [], nS) :: (12, .isub, [], nS) :: (13, .ireturn, [], nS) :: [] := nr rfl
theorem z_X6_age_0 : atL L_X6_age 0 = L_X6_age_0 := nr rfl
theorem e_X6_age {x : Addr} {v : Int32} {h : AH} {K2 : Option Value → SpS → AH → Prop} : S_X6_age SH0 [.ref x, .int v] h K2 = (fun (K : Option Value → AH → Prop) => x = 64 ∧ ∃ i : Nat, i < cnt (estM h) ∧ i < 10 ∧ v = nI i ∧ K (some (.int (eS (estM h) 1 - eF (estM h) i 3))) h) (fun v h' => K2 v SH0 h') := (lift_e P_X6_age [.ref x, .int v] h K2).trans (nr rfl)
set_option maxRecDepth 100000 in
set_option maxHeartbeats 4000000 in
theorem c_X6_age (l : Launch) : Ct l yX6_age cX6_age 2 (some .int) 1 0 0 S_X6_age := by
  refine Ct0_mk L_X6_age [] (by decide +kernel) (by decide) ok_X6_age (lk_X6_age l) ?_
  intro as h K hP
  match as, hP with
  | [.ref x, .int v], ⟨hx, i, hi, h10, hv, hK⟩ =>
  refine ⟨by simp [slotsN, Value.category], fun J hJ => ?_⟩
  subst hx hv
  rw [em_s (by omega), em_f hi (by omega)] at hK
  refine hJ 0 _ _ _ _ ?_
  simp only [z_X6_age_0, u_X6_age_0, ev_aload_n0, ev_getfR, ev_iconst, ev_iaload, ev_iload_n1, ev_isub, ev_iret, ro_i, ro_z, capO_z, kb_6, kb_7, kb_8, kb_9, kb_10, kb_12, kb_16, kb_20, kb_21, kb_30, kb_32, kb_40, kb_48, kb_50, kb_57, kb_59, kb_60, kb_63, kb_70, kb_78, kb_81, kb_82, kb_84, kb_97, kb_99, kb_100, kb_101, kb_119, kb_120, kb_122, ki_m1, ki_0, ki_1, ki_2, ki_3, ki_4, ki_5, ki_6, ki_7, ki_8, ki_9, ki_10, ki_11, ki_12, ki_13, ki_14, ki_15, ki_16, ki_17, ki_18, ki_19, ki_20, ki_21, ki_22, ki_23, ki_24, ki_25, ki_26, ki_27, ki_28, ki_29, ki_30, ki_31, ki_32, ki_33, ki_34, ki_35, ki_36, ki_37, ki_38, ki_39, ki_40, ki_41, ki_42, ki_43, ki_44, ki_45, ki_46, ki_47, ki_48, ki_49, ki_50, ki_51, ki_52, ki_53, ki_54, ki_55, ki_56, ki_57, ki_58, ki_59, ki_60, ki_61, ki_62, ki_63, ks_m2000, ks_m1006, ks_m1005, ks_m1004, ks_m1003, ks_m1002, ks_m1000, ks_200, ks_250, ks_255, ks_256, ks_320, ks_660, ks_999, ks_1000, ks_9999, ks_12345, ne_2, ne_10, t_0, t_40, t_41, t_42, t_43, t_44, t_45, t_46, t_47, t_64, t_65, t_66, t_67, t_68, t_69, t_70, t_71, t_72, t_73, t_74, t_75, t_76, t_77, t_78, t_79, t_80, t_81, t_82, r_0_0, r_0_1, r_0_2, r_0_4, r_0_5, r_0_6, r_0_7, r_40_0, r_40_5, r_44_0, r_44_1, r_64_0, r_64_1, r_64_3, r_64_4, r_64_5, r_64_6, r_64_7, r_64_8, r_64_9, r_64_12, r_64_17, r_64_18, r_64_19, r_64_20, r_64_22, r_64_23, r_64_24, r_64_25, t_1, t_14, t_27, t_2, t_15, t_28, Nat.reduceEqDiff, ne_eq, not_false_eq_true, false_implies, true_implies, implies_true, Nat.reduceAdd, Nat.reduceLeDiff, Nat.reduceLT, Nat.reduceMul, or_true, true_or, if_true, if_false, not_true_eq_false, and_self, bF, Nat.reduceBEq, Bool.false_and, Bool.and_false, Bool.or_self, Bool.or_false, Bool.false_or, Bool.false_eq_true, Int.reduceAdd, Bool.and_self, Bool.true_and, Bool.and_true, beq_self_eq_true, not_not_, i10_, i01_, List.length_nil, List.length_cons, true_and, and_true, false_and, and_false, kl_i, kl_a, kl_n, kl_l, tl_s, tl_n, rv_S, pd_0, pd_e, pd_r, pd_i, pd_l, vp10 h10, nI_10 h10]
  exact hK
def P_X6_young : Sp0T := fun as h K => match as with
  | [.ref x] => x = 64 ∧ okE (estM h) ∧ K (some (.int (areN (estM h) 0))) h
  | _ => False
def S_X6_young : SpT := lift P_X6_young
def L_X6_young_30 : List Item := (30, .iload_n 1, [], nS) :: (31, .ireturn, [], nS) :: []
def L_X6_young_24 : List Item := (24, .iinc 2 1, [], nS) :: (27, .goto (-23), [4], nS) :: L_X6_young_30
def L_X6_young_4 : List Item := (4, .iload_n 2, [], nS) :: (5, .aload_n 0, [], nS) :: (6, .getfield 69, [6, 2, 0], nS) :: (9, .if_icmp .ge 21, [30], nS) :: (12, .aload_n 0, [], nS) :: (13, .getfield 34, [6, 9, 1], nS) :: (16, .iload_n 2, [], nS) :: (17, .iaload, [], nS) :: (18, .ifCond .ne 6, [24], nS) :: (21, .iinc 1 1, [], nS) :: L_X6_young_24
def L_X6_young_0 : List Item := (0, .iconst 0, [], nS) :: (1, .istore_n 1, [], nS) :: (2, .iconst 0, [], nS) :: (3, .istore_n 2, [], nS) :: (4, .nop, [], nS) :: L_X6_young_4
def L_X6_young : List Item := L_X6_young_0
theorem ok_X6_young : okB cX6_young L_X6_young = true := by decide +kernel
theorem lk_X6_young (l : Launch) : LKs l RX6 1 false L_X6_young := ⟨trivial, trivial, trivial, trivial, trivial, trivial, trivial, ⟨_, _, _, rfl, ⟨(RX6, TX6, 26), rfl, by decide, gT_of (List.mem_of_getElem? (i := 920) (by decide +kernel)) rfl⟩, rfl⟩, trivial, trivial, ⟨_, _, _, rfl, ⟨(RX6, TX6, 26), rfl, by decide, gT_of (List.mem_of_getElem? (i := 927) (by decide +kernel)) rfl⟩, rfl⟩, trivial, trivial, trivial, trivial, trivial, trivial, trivial, trivial, trivial⟩
theorem b_X6_young_0 : atL L_X6_young 0 = L_X6_young_0 := rfl
theorem b_X6_young_4 : atL L_X6_young 4 = L_X6_young_4 := rfl
theorem b_X6_young_24 : atL L_X6_young 24 = L_X6_young_24 := rfl
theorem b_X6_young_30 : atL L_X6_young 30 = L_X6_young_30 := rfl
theorem a_X6_young_24 : afw L_X6_young [4] 24 = L_X6_young_24 := rfl
theorem a_X6_young_30 : afw L_X6_young [4] 30 = L_X6_young_30 := rfl
theorem a_X6_young_4 : afw L_X6_young [4] 4 = [] := rfl
theorem yv_X6_young : YV yX6_young cX6_young 3 (some .int) 0 6 := ⟨⟨gT_of (List.mem_of_getElem? (i := 1168) (by decide +kernel)) rfl, gT_of (List.mem_of_getElem? (i := 74) (by decide +kernel)) rfl, ⟨by decide, by decide⟩, by decide +kernel, by decide⟩, gT_of (List.mem_of_getElem? (i := 1167) (by decide +kernel)) rfl, gT_of (List.mem_of_getElem? (i := 43) (by decide +kernel)) rfl, rfl⟩
theorem u_X6_young_0 : L_X6_young_0 = (0, .iconst 0, [], nS) :: (1, .istore_n 1, [], nS) :: (2, .iconst 0, [], nS) :: (3, .istore_n 2, [], nS) :: (4, .nop, [], nS) :: L_X6_young_4 := nr rfl
theorem u_X6_young_4 : L_X6_young_4 = (4, .iload_n 2, [], nS) :: (5, .aload_n 0, [], nS) :: (6, .getfield 69, [6, 2, 0], nS) :: (9, .if_icmp .ge 21, [30], nS) :: (12, .aload_n 0, [], nS) :: (13, .getfield 34, [6, 9, 1], nS) :: (16, .iload_n 2, [], nS) :: (17, .iaload, [], nS) :: (18, .ifCond .ne 6, [24], nS) :: (21, .iinc 1 1, [], nS) :: L_X6_young_24 := nr rfl
theorem u_X6_young_24 : L_X6_young_24 = (24, .iinc 2 1, [], nS) :: (27, .goto (-23), [4], nS) :: L_X6_young_30 := nr rfl
theorem u_X6_young_30 : L_X6_young_30 = (30, .iload_n 1, [], nS) :: (31, .ireturn, [], nS) :: [] := nr rfl
theorem z_X6_young_0 : atL L_X6_young 0 = L_X6_young_0 := nr rfl
theorem z_X6_young_4 : atL L_X6_young 4 = L_X6_young_4 := nr rfl
theorem z_X6_young_24 : atL L_X6_young 24 = L_X6_young_24 := nr rfl
theorem z_X6_young_30 : atL L_X6_young 30 = L_X6_young_30 := nr rfl
theorem j_X6_young_24 {G : List Item → SpS → List Value → List Value → AH → Prop} {J : Nat → SpS → List Value → List Value → AH → Prop} {S : SpS} {lv st : List Value} {h : AH} : jmp G J (afw L_X6_young [4] 24) 24 S lv st h = G L_X6_young_24 S lv st h := nr rfl
theorem j_X6_young_30 {G : List Item → SpS → List Value → List Value → AH → Prop} {J : Nat → SpS → List Value → List Value → AH → Prop} {S : SpS} {lv st : List Value} {h : AH} : jmp G J (afw L_X6_young [4] 30) 30 S lv st h = G L_X6_young_30 S lv st h := nr rfl
theorem j_X6_young_4 {G : List Item → SpS → List Value → List Value → AH → Prop} {J : Nat → SpS → List Value → List Value → AH → Prop} {S : SpS} {lv st : List Value} {h : AH} : jmp G J (afw L_X6_young [4] 4) 4 S lv st h = J 4 S lv st h := nr rfl
theorem e_X6_young {x : Addr} {h : AH} {K2 : Option Value → SpS → AH → Prop} : S_X6_young SH0 [.ref x] h K2 = (fun (K : Option Value → AH → Prop) => x = 64 ∧ okE (estM h) ∧ K (some (.int (areN (estM h) 0))) h) (fun v h' => K2 v SH0 h') := (lift_e P_X6_young [.ref x] h K2).trans (nr rfl)
set_option maxRecDepth 100000 in
set_option maxHeartbeats 4000000 in
theorem c_X6_young (l : Launch) : Ct l yX6_young cX6_young 3 (some .int) 1 0 0 S_X6_young := by
  refine Ct0_mk L_X6_young [4] (by decide +kernel) (by decide) ok_X6_young (lk_X6_young l) ?_
  intro as h K hP
  match as, hP with
  | [.ref x], ⟨hx, ho, hK⟩ =>
  refine ⟨by simp [slotsN, Value.category], fun J hJ => ?_⟩
  subst hx
  have c4 := em_c ho
  have hn := ho.2.1
  generalize hE : estM h = E at *
  refine dn (P := fun a => J 4 SH0 [.ref 64, .int (forN a (fun i a => if eF E i 6 = 0 then a + 1 else a) 0), .int (nI a)] [] h) (cnt E) ?_ (fun a ha ih => ?_) |> fun z => ?_
  · refine hJ 4 _ _ _ _ ?_
    simp only [z_X6_young_4, u_X6_young_0, u_X6_young_4, u_X6_young_24, u_X6_young_30, j_X6_young_4, j_X6_young_24, j_X6_young_30, ev_iconst, ev_istore_n1, ev_istore_n2, ev_nop, ev_iload_n2, ev_aload_n0, ev_getfI, ev_ic_ge, ev_getfR, ev_iaload, ev_if_ne, ev_iinc1, ev_iinc2, ev_goto, ev_iload_n1, ev_iret, ro_i, ro_z, capO_z, kb_6, kb_7, kb_8, kb_9, kb_10, kb_12, kb_16, kb_20, kb_21, kb_30, kb_32, kb_40, kb_48, kb_50, kb_57, kb_59, kb_60, kb_63, kb_70, kb_78, kb_81, kb_82, kb_84, kb_97, kb_99, kb_100, kb_101, kb_119, kb_120, kb_122, ki_m1, ki_0, ki_1, ki_2, ki_3, ki_4, ki_5, ki_6, ki_7, ki_8, ki_9, ki_10, ki_11, ki_12, ki_13, ki_14, ki_15, ki_16, ki_17, ki_18, ki_19, ki_20, ki_21, ki_22, ki_23, ki_24, ki_25, ki_26, ki_27, ki_28, ki_29, ki_30, ki_31, ki_32, ki_33, ki_34, ki_35, ki_36, ki_37, ki_38, ki_39, ki_40, ki_41, ki_42, ki_43, ki_44, ki_45, ki_46, ki_47, ki_48, ki_49, ki_50, ki_51, ki_52, ki_53, ki_54, ki_55, ki_56, ki_57, ki_58, ki_59, ki_60, ki_61, ki_62, ki_63, ks_m2000, ks_m1006, ks_m1005, ks_m1004, ks_m1003, ks_m1002, ks_m1000, ks_200, ks_250, ks_255, ks_256, ks_320, ks_660, ks_999, ks_1000, ks_9999, ks_12345, ne_2, ne_10, t_0, t_40, t_41, t_42, t_43, t_44, t_45, t_46, t_47, t_64, t_65, t_66, t_67, t_68, t_69, t_70, t_71, t_72, t_73, t_74, t_75, t_76, t_77, t_78, t_79, t_80, t_81, t_82, r_0_0, r_0_1, r_0_2, r_0_4, r_0_5, r_0_6, r_0_7, r_40_0, r_40_5, r_44_0, r_44_1, r_64_0, r_64_1, r_64_3, r_64_4, r_64_5, r_64_6, r_64_7, r_64_8, r_64_9, r_64_12, r_64_17, r_64_18, r_64_19, r_64_20, r_64_22, r_64_23, r_64_24, r_64_25, t_1, t_14, t_27, t_2, t_15, t_28, Nat.reduceEqDiff, ne_eq, not_false_eq_true, false_implies, true_implies, implies_true, Nat.reduceAdd, Nat.reduceLeDiff, Nat.reduceLT, Nat.reduceMul, or_true, true_or, if_true, if_false, not_true_eq_false, and_self, bF, Nat.reduceBEq, Bool.false_and, Bool.and_false, Bool.or_self, Bool.or_false, Bool.false_or, Bool.false_eq_true, Int.reduceAdd, Bool.and_self, Bool.true_and, Bool.and_true, beq_self_eq_true, not_not_, i10_, i01_, List.length_nil, List.length_cons, true_and, and_true, false_and, and_false, kl_i, kl_a, kl_n, kl_l, tl_s, tl_n, rv_S, pd_0, pd_e, pd_r, pd_i, pd_l, c4, lpT10 hn]
    exact hK
  · have e6 : gI h 73 a = eF E a 6 := by rw [← hE]; exact (em_f (h := h) (i := a) (k := 6) (by rw [hE]; exact ha) (by omega)).symm
    refine hJ 4 _ _ _ _ ?_
    simp only [z_X6_young_4, u_X6_young_0, u_X6_young_4, u_X6_young_24, u_X6_young_30, j_X6_young_4, j_X6_young_24, j_X6_young_30, ev_iconst, ev_istore_n1, ev_istore_n2, ev_nop, ev_iload_n2, ev_aload_n0, ev_getfI, ev_ic_ge, ev_getfR, ev_iaload, ev_if_ne, ev_iinc1, ev_iinc2, ev_goto, ev_iload_n1, ev_iret, ro_i, ro_z, capO_z, kb_6, kb_7, kb_8, kb_9, kb_10, kb_12, kb_16, kb_20, kb_21, kb_30, kb_32, kb_40, kb_48, kb_50, kb_57, kb_59, kb_60, kb_63, kb_70, kb_78, kb_81, kb_82, kb_84, kb_97, kb_99, kb_100, kb_101, kb_119, kb_120, kb_122, ki_m1, ki_0, ki_1, ki_2, ki_3, ki_4, ki_5, ki_6, ki_7, ki_8, ki_9, ki_10, ki_11, ki_12, ki_13, ki_14, ki_15, ki_16, ki_17, ki_18, ki_19, ki_20, ki_21, ki_22, ki_23, ki_24, ki_25, ki_26, ki_27, ki_28, ki_29, ki_30, ki_31, ki_32, ki_33, ki_34, ki_35, ki_36, ki_37, ki_38, ki_39, ki_40, ki_41, ki_42, ki_43, ki_44, ki_45, ki_46, ki_47, ki_48, ki_49, ki_50, ki_51, ki_52, ki_53, ki_54, ki_55, ki_56, ki_57, ki_58, ki_59, ki_60, ki_61, ki_62, ki_63, ks_m2000, ks_m1006, ks_m1005, ks_m1004, ks_m1003, ks_m1002, ks_m1000, ks_200, ks_250, ks_255, ks_256, ks_320, ks_660, ks_999, ks_1000, ks_9999, ks_12345, ne_2, ne_10, t_0, t_40, t_41, t_42, t_43, t_44, t_45, t_46, t_47, t_64, t_65, t_66, t_67, t_68, t_69, t_70, t_71, t_72, t_73, t_74, t_75, t_76, t_77, t_78, t_79, t_80, t_81, t_82, r_0_0, r_0_1, r_0_2, r_0_4, r_0_5, r_0_6, r_0_7, r_40_0, r_40_5, r_44_0, r_44_1, r_64_0, r_64_1, r_64_3, r_64_4, r_64_5, r_64_6, r_64_7, r_64_8, r_64_9, r_64_12, r_64_17, r_64_18, r_64_19, r_64_20, r_64_22, r_64_23, r_64_24, r_64_25, t_1, t_14, t_27, t_2, t_15, t_28, Nat.reduceEqDiff, ne_eq, not_false_eq_true, false_implies, true_implies, implies_true, Nat.reduceAdd, Nat.reduceLeDiff, Nat.reduceLT, Nat.reduceMul, or_true, true_or, if_true, if_false, not_true_eq_false, and_self, bF, Nat.reduceBEq, Bool.false_and, Bool.and_false, Bool.or_self, Bool.or_false, Bool.false_or, Bool.false_eq_true, Int.reduceAdd, Bool.and_self, Bool.true_and, Bool.and_true, beq_self_eq_true, not_not_, i10_, i01_, List.length_nil, List.length_cons, true_and, and_true, false_and, and_false, kl_i, kl_a, kl_n, kl_l, tl_s, tl_n, rv_S, pd_0, pd_e, pd_r, pd_i, pd_l, c4, lpF10 ha hn, vp10 (show a < 10 by omega), nI_10 (show a < 10 by omega), e6, nI_1]
    rw [forN_s] at ih
    refine ⟨fun q => ?_, fun q => ?_⟩
    · rw [if_neg q] at ih; exact ih
    · rw [if_pos q] at ih; exact ih
  · refine hJ 0 _ _ _ _ ?_
    simp only [z_X6_young_0, u_X6_young_0, u_X6_young_4, u_X6_young_24, u_X6_young_30, j_X6_young_4, j_X6_young_24, j_X6_young_30, ev_iconst, ev_istore_n1, ev_istore_n2, ev_nop, ev_iload_n2, ev_aload_n0, ev_getfI, ev_ic_ge, ev_getfR, ev_iaload, ev_if_ne, ev_iinc1, ev_iinc2, ev_goto, ev_iload_n1, ev_iret, ro_i, ro_z, capO_z, kb_6, kb_7, kb_8, kb_9, kb_10, kb_12, kb_16, kb_20, kb_21, kb_30, kb_32, kb_40, kb_48, kb_50, kb_57, kb_59, kb_60, kb_63, kb_70, kb_78, kb_81, kb_82, kb_84, kb_97, kb_99, kb_100, kb_101, kb_119, kb_120, kb_122, ki_m1, ki_0, ki_1, ki_2, ki_3, ki_4, ki_5, ki_6, ki_7, ki_8, ki_9, ki_10, ki_11, ki_12, ki_13, ki_14, ki_15, ki_16, ki_17, ki_18, ki_19, ki_20, ki_21, ki_22, ki_23, ki_24, ki_25, ki_26, ki_27, ki_28, ki_29, ki_30, ki_31, ki_32, ki_33, ki_34, ki_35, ki_36, ki_37, ki_38, ki_39, ki_40, ki_41, ki_42, ki_43, ki_44, ki_45, ki_46, ki_47, ki_48, ki_49, ki_50, ki_51, ki_52, ki_53, ki_54, ki_55, ki_56, ki_57, ki_58, ki_59, ki_60, ki_61, ki_62, ki_63, ks_m2000, ks_m1006, ks_m1005, ks_m1004, ks_m1003, ks_m1002, ks_m1000, ks_200, ks_250, ks_255, ks_256, ks_320, ks_660, ks_999, ks_1000, ks_9999, ks_12345, ne_2, ne_10, t_0, t_40, t_41, t_42, t_43, t_44, t_45, t_46, t_47, t_64, t_65, t_66, t_67, t_68, t_69, t_70, t_71, t_72, t_73, t_74, t_75, t_76, t_77, t_78, t_79, t_80, t_81, t_82, r_0_0, r_0_1, r_0_2, r_0_4, r_0_5, r_0_6, r_0_7, r_40_0, r_40_5, r_44_0, r_44_1, r_64_0, r_64_1, r_64_3, r_64_4, r_64_5, r_64_6, r_64_7, r_64_8, r_64_9, r_64_12, r_64_17, r_64_18, r_64_19, r_64_20, r_64_22, r_64_23, r_64_24, r_64_25, t_1, t_14, t_27, t_2, t_15, t_28, Nat.reduceEqDiff, ne_eq, not_false_eq_true, false_implies, true_implies, implies_true, Nat.reduceAdd, Nat.reduceLeDiff, Nat.reduceLT, Nat.reduceMul, or_true, true_or, if_true, if_false, not_true_eq_false, and_self, bF, Nat.reduceBEq, Bool.false_and, Bool.and_false, Bool.or_self, Bool.or_false, Bool.false_or, Bool.false_eq_true, Int.reduceAdd, Bool.and_self, Bool.true_and, Bool.and_true, beq_self_eq_true, not_not_, i10_, i01_, List.length_nil, List.length_cons, true_and, and_true, false_and, and_false, kl_i, kl_a, kl_n, kl_l, tl_s, tl_n, rv_S, pd_0, pd_e, pd_r, pd_i, pd_l]
    exact z
