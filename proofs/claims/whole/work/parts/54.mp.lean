/-! ===== the model's HEIRS: what is seen of them ===== -/
theorem em_c4 {h : AH} {n : Nat} (h4 : gI h 64 2 = nI n) (hn : n ≤ 10) : cnt (estM h) = n := by rw [em_n, h4, nI_clamp (by omega)]
theorem min_c (x y : Int32) : (if y < x then y else x) = if x < y then x else y := by
  by_cases q : y < x
  · rw [if_pos q, if_neg (fun z => absurd (Int32.lt_trans q z) (Int32.not_lt.mpr (Int32.le_refl _)))]
  · rw [if_neg q]
    by_cases q2 : x < y
    · rw [if_pos q2]
    · rw [if_neg q2]; exact Int32.le_antisymm (Int32.not_lt.mp q) (Int32.not_lt.mp q2)
def P_X6_age : Sp0T := fun as h K => match as with
  | [.ref x, .int v] => x = 64 ∧ ∃ i : Nat, i < cnt (estM h) ∧ i < 10 ∧ v = nI i ∧ K (some (.int (eS (estM h) 1 - eF (estM h) i 3))) h
  | _ => False
def S_X6_age : SpT := lift P_X6_age
def L_X6_age_0 : List Item := (0, .aload_n 0, [], nS) :: (1, .getfield 7, [6, 0, 1], nS) :: (4, .iconst 1, [], nS) :: (5, .iaload, [], nS) :: (6, .aload_n 0, [], nS) :: (7, .getfield 25, [6, 6, 1], nS) :: (10, .iload_n 1, [], nS) :: (11, .iaload, [], nS) :: (12, .isub, [], nS) :: (13, .ireturn, [], nS) :: []
def L_X6_age : List Item := L_X6_age_0
theorem ok_X6_age : okB cX6_age L_X6_age = true := by decide +kernel
theorem lk_X6_age (l : Launch) : LKs l RX6 1 false L_X6_age := ⟨trivial, ⟨_, _, _, rfl, ⟨(RX6, TX6, 26), rfl, by decide, gT_of (List.mem_of_getElem? (i := 918) (by decide +kernel)) rfl⟩, rfl⟩, trivial, trivial, trivial, ⟨_, _, _, rfl, ⟨(RX6, TX6, 26), rfl, by decide, gT_of (List.mem_of_getElem? (i := 924) (by decide +kernel)) rfl⟩, rfl⟩, trivial, trivial, trivial, trivial, trivial⟩
theorem b_X6_age_0 : atL L_X6_age 0 = L_X6_age_0 := rfl
theorem yv_X6_age : YV yX6_age cX6_age 2 (some .int) 1 6 := ⟨⟨gT_of (List.mem_of_getElem? (i := 1152) (by decide +kernel)) rfl, gT_of (List.mem_of_getElem? (i := 74) (by decide +kernel)) rfl, ⟨by decide, by decide⟩, by decide +kernel, by decide⟩, gT_of (List.mem_of_getElem? (i := 1151) (by decide +kernel)) rfl, gT_of (List.mem_of_getElem? (i := 41) (by decide +kernel)) rfl, rfl⟩
theorem u_X6_age_0 : L_X6_age_0 = (0, .aload_n 0, [], nS) :: (1, .getfield 7, [6, 0, 1], nS) :: (4, .iconst 1, [], nS) :: (5, .iaload, [], nS) :: (6, .aload_n 0, [], nS) :: (7, .getfield 25, [6, 6, 1], nS) :: (10, .iload_n 1, [], nS) :: (11, .iaload, [], nS) :: (12, .isub, [], nS) :: (13, .ireturn, [], nS) :: [] := nr rfl
theorem z_X6_age_0 : atL L_X6_age 0 = L_X6_age_0 := nr rfl
theorem e_X6_age {x : Addr} {v : Int32} {h : AH} {K2 : Option Value → SpS → AH → Prop} : S_X6_age SH0 [.ref x, .int v] h K2 = (fun (K : Option Value → AH → Prop) => x = 64 ∧ ∃ i : Nat, i < cnt (estM h) ∧ i < 10 ∧ v = nI i ∧ K (some (.int (eS (estM h) 1 - eF (estM h) i 3))) h) (fun v h' => K2 v SH0 h') := (lift_e P_X6_age [.ref x, .int v] h K2).trans (nr rfl)
set_option maxRecDepth 100000 in
set_option maxHeartbeats 4000000 in
theorem c_X6_age (l : Launch) : Ct l yX6_age cX6_age 2 (some .int) 1 0 0 S_X6_age := by
  refine Ct0_mk L_X6_age [] (by decide +kernel) (by decide) ok_X6_age (lk_X6_age l) ?_
  intro as h K hP
  match as, hP with
  | [.ref x, .int v], ⟨hx, i, hi, h10, hv, hK⟩ =>
  refine ⟨by simp [slotsN, Value.category], fun J hJ => ?_⟩
  subst hx hv
  rw [em_s (by omega), em_f hi (by omega)] at hK
  refine hJ 0 _ _ _ _ ?_
  simp only [z_X6_age_0, u_X6_age_0, ev_aload_n0, ev_getfR, ev_iconst, ev_iaload, ev_iload_n1, ev_isub, ev_iret, ro_i, ro_z, vq3_0, vq3_1, vq3_2, cq_0, cq_1, cq_2, capO_z, kb_6, kb_7, kb_8, kb_9, kb_10, kb_12, kb_16, kb_20, kb_21, kb_30, kb_32, kb_40, kb_48, kb_50, kb_57, kb_59, kb_60, kb_63, kb_70, kb_78, kb_81, kb_82, kb_84, kb_97, kb_99, kb_100, kb_101, kb_119, kb_120, kb_122, ki_m1, ki_0, ki_1, ki_2, ki_3, ki_4, ki_5, ki_6, ki_7, ki_8, ki_9, ki_10, ki_11, ki_12, ki_13, ki_14, ki_15, ki_16, ki_17, ki_18, ki_19, ki_20, ki_21, ki_22, ki_23, ki_24, ki_25, ki_26, ki_27, ki_28, ki_29, ki_30, ki_31, ki_32, ki_33, ki_34, ki_35, ki_36, ki_37, ki_38, ki_39, ki_40, ki_41, ki_42, ki_43, ki_44, ki_45, ki_46, ki_47, ki_48, ki_49, ki_50, ki_51, ki_52, ki_53, ki_54, ki_55, ki_56, ki_57, ki_58, ki_59, ki_60, ki_61, ki_62, ki_63, ks_m2000, ks_m1006, ks_m1005, ks_m1004, ks_m1003, ks_m1002, ks_m1000, ks_200, ks_250, ks_255, ks_256, ks_320, ks_660, ks_999, ks_1000, ks_9999, ks_12345, ne_2, ne_10, t_0, t_40, t_41, t_42, t_43, t_44, t_45, t_46, t_47, t_64, t_65, t_66, t_67, t_68, t_69, t_70, t_71, t_72, t_73, t_74, t_75, t_76, t_77, t_78, t_79, t_80, t_81, t_82, r_0_0, r_0_1, r_0_2, r_0_4, r_0_5, r_0_6, r_0_7, r_40_0, r_40_5, r_44_0, r_44_1, r_64_0, r_64_1, r_64_3, r_64_4, r_64_5, r_64_6, r_64_7, r_64_8, r_64_9, r_64_12, r_64_17, r_64_18, r_64_19, r_64_20, r_64_22, r_64_23, r_64_24, r_64_25, t_1, t_14, t_27, t_2, t_15, t_28, Nat.reduceEqDiff, ne_eq, not_false_eq_true, false_implies, true_implies, implies_true, Nat.reduceAdd, Nat.reduceLeDiff, Nat.reduceLT, Nat.reduceMul, or_true, true_or, if_true, if_false, not_true_eq_false, and_self, bF, Nat.reduceBEq, Bool.false_and, Bool.and_false, Bool.or_self, Bool.or_false, Bool.false_or, Bool.false_eq_true, Int.reduceAdd, Bool.and_self, Bool.true_and, Bool.and_true, beq_self_eq_true, not_not_, i10_, i01_, List.length_nil, List.length_cons, true_and, and_true, false_and, and_false, kl_i, kl_a, kl_n, kl_l, tl_s, tl_n, rv_S, pd_0, pd_e, pd_r, pd_i, pd_l, vp10 h10, nI_10 h10]
  exact hK
def P_X6_young : Sp0T := fun as h K => match as with
  | [.ref x] => x = 64 ∧ okE (estM h) ∧ K (some (.int (areN (estM h) 0))) h
  | _ => False
def S_X6_young : SpT := lift P_X6_young
def L_X6_young_30 : List Item := (30, .iload_n 1, [], nS) :: (31, .ireturn, [], nS) :: []
def L_X6_young_24 : List Item := (24, .iinc 2 1, [], nS) :: (27, .goto (-23), [4], nS) :: L_X6_young_30
def L_X6_young_4 : List Item := (4, .iload_n 2, [], nS) :: (5, .aload_n 0, [], nS) :: (6, .getfield 69, [6, 2, 0], nS) :: (9, .if_icmp .ge 21, [30], nS) :: (12, .aload_n 0, [], nS) :: (13, .getfield 34, [6, 9, 1], nS) :: (16, .iload_n 2, [], nS) :: (17, .iaload, [], nS) :: (18, .ifCond .ne 6, [24], nS) :: (21, .iinc 1 1, [], nS) :: L_X6_young_24
def L_X6_young_0 : List Item := (0, .iconst 0, [], nS) :: (1, .istore_n 1, [], nS) :: (2, .iconst 0, [], nS) :: (3, .istore_n 2, [], nS) :: (4, .nop, [], nS) :: L_X6_young_4
def L_X6_young : List Item := L_X6_young_0
theorem ok_X6_young : okB cX6_young L_X6_young = true := by decide +kernel
theorem lk_X6_young (l : Launch) : LKs l RX6 1 false L_X6_young := ⟨trivial, trivial, trivial, trivial, trivial, trivial, trivial, ⟨_, _, _, rfl, ⟨(RX6, TX6, 26), rfl, by decide, gT_of (List.mem_of_getElem? (i := 920) (by decide +kernel)) rfl⟩, rfl⟩, trivial, trivial, ⟨_, _, _, rfl, ⟨(RX6, TX6, 26), rfl, by decide, gT_of (List.mem_of_getElem? (i := 927) (by decide +kernel)) rfl⟩, rfl⟩, trivial, trivial, trivial, trivial, trivial, trivial, trivial, trivial, trivial⟩
theorem b_X6_young_0 : atL L_X6_young 0 = L_X6_young_0 := rfl
theorem b_X6_young_4 : atL L_X6_young 4 = L_X6_young_4 := rfl
theorem b_X6_young_24 : atL L_X6_young 24 = L_X6_young_24 := rfl
theorem b_X6_young_30 : atL L_X6_young 30 = L_X6_young_30 := rfl
theorem a_X6_young_24 : afw L_X6_young [4] 24 = L_X6_young_24 := rfl
theorem a_X6_young_30 : afw L_X6_young [4] 30 = L_X6_young_30 := rfl
theorem a_X6_young_4 : afw L_X6_young [4] 4 = [] := rfl
theorem yv_X6_young : YV yX6_young cX6_young 3 (some .int) 0 6 := ⟨⟨gT_of (List.mem_of_getElem? (i := 1168) (by decide +kernel)) rfl, gT_of (List.mem_of_getElem? (i := 74) (by decide +kernel)) rfl, ⟨by decide, by decide⟩, by decide +kernel, by decide⟩, gT_of (List.mem_of_getElem? (i := 1167) (by decide +kernel)) rfl, gT_of (List.mem_of_getElem? (i := 43) (by decide +kernel)) rfl, rfl⟩
theorem u_X6_young_0 : L_X6_young_0 = (0, .iconst 0, [], nS) :: (1, .istore_n 1, [], nS) :: (2, .iconst 0, [], nS) :: (3, .istore_n 2, [], nS) :: (4, .nop, [], nS) :: L_X6_young_4 := nr rfl
theorem u_X6_young_4 : L_X6_young_4 = (4, .iload_n 2, [], nS) :: (5, .aload_n 0, [], nS) :: (6, .getfield 69, [6, 2, 0], nS) :: (9, .if_icmp .ge 21, [30], nS) :: (12, .aload_n 0, [], nS) :: (13, .getfield 34, [6, 9, 1], nS) :: (16, .iload_n 2, [], nS) :: (17, .iaload, [], nS) :: (18, .ifCond .ne 6, [24], nS) :: (21, .iinc 1 1, [], nS) :: L_X6_young_24 := nr rfl
theorem u_X6_young_24 : L_X6_young_24 = (24, .iinc 2 1, [], nS) :: (27, .goto (-23), [4], nS) :: L_X6_young_30 := nr rfl
theorem u_X6_young_30 : L_X6_young_30 = (30, .iload_n 1, [], nS) :: (31, .ireturn, [], nS) :: [] := nr rfl
theorem z_X6_young_0 : atL L_X6_young 0 = L_X6_young_0 := nr rfl
theorem z_X6_young_4 : atL L_X6_young 4 = L_X6_young_4 := nr rfl
theorem z_X6_young_24 : atL L_X6_young 24 = L_X6_young_24 := nr rfl
theorem z_X6_young_30 : atL L_X6_young 30 = L_X6_young_30 := nr rfl
theorem j_X6_young_24 {G : List Item → SpS → List Value → List Value → AH → Prop} {J : Nat → SpS → List Value → List Value → AH → Prop} {S : SpS} {lv st : List Value} {h : AH} : jmp G J (afw L_X6_young [4] 24) 24 S lv st h = G L_X6_young_24 S lv st h := nr rfl
theorem j_X6_young_30 {G : List Item → SpS → List Value → List Value → AH → Prop} {J : Nat → SpS → List Value → List Value → AH → Prop} {S : SpS} {lv st : List Value} {h : AH} : jmp G J (afw L_X6_young [4] 30) 30 S lv st h = G L_X6_young_30 S lv st h := nr rfl
theorem j_X6_young_4 {G : List Item → SpS → List Value → List Value → AH → Prop} {J : Nat → SpS → List Value → List Value → AH → Prop} {S : SpS} {lv st : List Value} {h : AH} : jmp G J (afw L_X6_young [4] 4) 4 S lv st h = J 4 S lv st h := nr rfl
theorem e_X6_young {x : Addr} {h : AH} {K2 : Option Value → SpS → AH → Prop} : S_X6_young SH0 [.ref x] h K2 = (fun (K : Option Value → AH → Prop) => x = 64 ∧ okE (estM h) ∧ K (some (.int (areN (estM h) 0))) h) (fun v h' => K2 v SH0 h') := (lift_e P_X6_young [.ref x] h K2).trans (nr rfl)
set_option maxRecDepth 100000 in
set_option maxHeartbeats 4000000 in
theorem c_X6_young (l : Launch) : Ct l yX6_young cX6_young 3 (some .int) 1 0 0 S_X6_young := by
  refine Ct0_mk L_X6_young [4] (by decide +kernel) (by decide) ok_X6_young (lk_X6_young l) ?_
  intro as h K hP
  match as, hP with
  | [.ref x], ⟨hx, ho, hK⟩ =>
  refine ⟨by simp [slotsN, Value.category], fun J hJ => ?_⟩
  subst hx
  have hc := em_c ho
  obtain ⟨-, hn, -⟩ := ho
  have hF := fun i k => em_f (h := h) (i := i) (k := k)
  generalize hE : estM h = E at *
  refine hJ 0 _ _ _ _ ?_
  simp only [z_X6_young_0, u_X6_young_0, u_X6_young_4, u_X6_young_24, u_X6_young_30, j_X6_young_4, j_X6_young_24, j_X6_young_30, ev_iconst, ev_istore_n1, ev_istore_n2, ev_nop, ev_iload_n2, ev_aload_n0, ev_getfI, ev_ic_ge, ev_getfR, ev_iaload, ev_if_ne, ev_iinc1, ev_iinc2, ev_goto, ev_iload_n1, ev_iret, ro_i, ro_z, vq3_0, vq3_1, vq3_2, cq_0, cq_1, cq_2, capO_z, kb_6, kb_7, kb_8, kb_9, kb_10, kb_12, kb_16, kb_20, kb_21, kb_30, kb_32, kb_40, kb_48, kb_50, kb_57, kb_59, kb_60, kb_63, kb_70, kb_78, kb_81, kb_82, kb_84, kb_97, kb_99, kb_100, kb_101, kb_119, kb_120, kb_122, ki_m1, ki_0, ki_1, ki_2, ki_3, ki_4, ki_5, ki_6, ki_7, ki_8, ki_9, ki_10, ki_11, ki_12, ki_13, ki_14, ki_15, ki_16, ki_17, ki_18, ki_19, ki_20, ki_21, ki_22, ki_23, ki_24, ki_25, ki_26, ki_27, ki_28, ki_29, ki_30, ki_31, ki_32, ki_33, ki_34, ki_35, ki_36, ki_37, ki_38, ki_39, ki_40, ki_41, ki_42, ki_43, ki_44, ki_45, ki_46, ki_47, ki_48, ki_49, ki_50, ki_51, ki_52, ki_53, ki_54, ki_55, ki_56, ki_57, ki_58, ki_59, ki_60, ki_61, ki_62, ki_63, ks_m2000, ks_m1006, ks_m1005, ks_m1004, ks_m1003, ks_m1002, ks_m1000, ks_200, ks_250, ks_255, ks_256, ks_320, ks_660, ks_999, ks_1000, ks_9999, ks_12345, ne_2, ne_10, t_0, t_40, t_41, t_42, t_43, t_44, t_45, t_46, t_47, t_64, t_65, t_66, t_67, t_68, t_69, t_70, t_71, t_72, t_73, t_74, t_75, t_76, t_77, t_78, t_79, t_80, t_81, t_82, r_0_0, r_0_1, r_0_2, r_0_4, r_0_5, r_0_6, r_0_7, r_40_0, r_40_5, r_44_0, r_44_1, r_64_0, r_64_1, r_64_3, r_64_4, r_64_5, r_64_6, r_64_7, r_64_8, r_64_9, r_64_12, r_64_17, r_64_18, r_64_19, r_64_20, r_64_22, r_64_23, r_64_24, r_64_25, t_1, t_14, t_27, t_2, t_15, t_28, Nat.reduceEqDiff, ne_eq, not_false_eq_true, false_implies, true_implies, implies_true, Nat.reduceAdd, Nat.reduceLeDiff, Nat.reduceLT, Nat.reduceMul, or_true, true_or, if_true, if_false, not_true_eq_false, and_self, bF, Nat.reduceBEq, Bool.false_and, Bool.and_false, Bool.or_self, Bool.or_false, Bool.false_or, Bool.false_eq_true, Int.reduceAdd, Bool.and_self, Bool.true_and, Bool.and_true, beq_self_eq_true, not_not_, i10_, i01_, List.length_nil, List.length_cons, true_and, and_true, false_and, and_false, kl_i, kl_a, kl_n, kl_l, tl_s, tl_n, rv_S, pd_0, pd_e, pd_r, pd_i, pd_l]
  refine dn (P := fun i => J 4 SH0 [.ref 64, .int (forN i (fun i a => if eF E i 6 = 0 then a + 1 else a) 0), .int (nI i)] [] h) (cnt E) ?_ (fun i hi ih => ?_)
  · refine hJ 4 _ _ _ _ ?_
    simp only [z_X6_young_4, u_X6_young_0, u_X6_young_4, u_X6_young_24, u_X6_young_30, j_X6_young_4, j_X6_young_24, j_X6_young_30, ev_iconst, ev_istore_n1, ev_istore_n2, ev_nop, ev_iload_n2, ev_aload_n0, ev_getfI, ev_ic_ge, ev_getfR, ev_iaload, ev_if_ne, ev_iinc1, ev_iinc2, ev_goto, ev_iload_n1, ev_iret, ro_i, ro_z, vq3_0, vq3_1, vq3_2, cq_0, cq_1, cq_2, capO_z, kb_6, kb_7, kb_8, kb_9, kb_10, kb_12, kb_16, kb_20, kb_21, kb_30, kb_32, kb_40, kb_48, kb_50, kb_57, kb_59, kb_60, kb_63, kb_70, kb_78, kb_81, kb_82, kb_84, kb_97, kb_99, kb_100, kb_101, kb_119, kb_120, kb_122, ki_m1, ki_0, ki_1, ki_2, ki_3, ki_4, ki_5, ki_6, ki_7, ki_8, ki_9, ki_10, ki_11, ki_12, ki_13, ki_14, ki_15, ki_16, ki_17, ki_18, ki_19, ki_20, ki_21, ki_22, ki_23, ki_24, ki_25, ki_26, ki_27, ki_28, ki_29, ki_30, ki_31, ki_32, ki_33, ki_34, ki_35, ki_36, ki_37, ki_38, ki_39, ki_40, ki_41, ki_42, ki_43, ki_44, ki_45, ki_46, ki_47, ki_48, ki_49, ki_50, ki_51, ki_52, ki_53, ki_54, ki_55, ki_56, ki_57, ki_58, ki_59, ki_60, ki_61, ki_62, ki_63, ks_m2000, ks_m1006, ks_m1005, ks_m1004, ks_m1003, ks_m1002, ks_m1000, ks_200, ks_250, ks_255, ks_256, ks_320, ks_660, ks_999, ks_1000, ks_9999, ks_12345, ne_2, ne_10, t_0, t_40, t_41, t_42, t_43, t_44, t_45, t_46, t_47, t_64, t_65, t_66, t_67, t_68, t_69, t_70, t_71, t_72, t_73, t_74, t_75, t_76, t_77, t_78, t_79, t_80, t_81, t_82, r_0_0, r_0_1, r_0_2, r_0_4, r_0_5, r_0_6, r_0_7, r_40_0, r_40_5, r_44_0, r_44_1, r_64_0, r_64_1, r_64_3, r_64_4, r_64_5, r_64_6, r_64_7, r_64_8, r_64_9, r_64_12, r_64_17, r_64_18, r_64_19, r_64_20, r_64_22, r_64_23, r_64_24, r_64_25, t_1, t_14, t_27, t_2, t_15, t_28, Nat.reduceEqDiff, ne_eq, not_false_eq_true, false_implies, true_implies, implies_true, Nat.reduceAdd, Nat.reduceLeDiff, Nat.reduceLT, Nat.reduceMul, or_true, true_or, if_true, if_false, not_true_eq_false, and_self, bF, Nat.reduceBEq, Bool.false_and, Bool.and_false, Bool.or_self, Bool.or_false, Bool.false_or, Bool.false_eq_true, Int.reduceAdd, Bool.and_self, Bool.true_and, Bool.and_true, beq_self_eq_true, not_not_, i10_, i01_, List.length_nil, List.length_cons, true_and, and_true, false_and, and_false, kl_i, kl_a, kl_n, kl_l, tl_s, tl_n, rv_S, pd_0, pd_e, pd_r, pd_i, pd_l, hc, lpT10 hn]
    exact hK
  · have hi10 : i < 10 := by omega
    have hg : eF E i 6 = gI h 73 i := hF i 6 hi (by omega)
    refine hJ 4 _ _ _ _ ?_
    simp only [z_X6_young_4, u_X6_young_0, u_X6_young_4, u_X6_young_24, u_X6_young_30, j_X6_young_4, j_X6_young_24, j_X6_young_30, ev_iconst, ev_istore_n1, ev_istore_n2, ev_nop, ev_iload_n2, ev_aload_n0, ev_getfI, ev_ic_ge, ev_getfR, ev_iaload, ev_if_ne, ev_iinc1, ev_iinc2, ev_goto, ev_iload_n1, ev_iret, ro_i, ro_z, vq3_0, vq3_1, vq3_2, cq_0, cq_1, cq_2, capO_z, kb_6, kb_7, kb_8, kb_9, kb_10, kb_12, kb_16, kb_20, kb_21, kb_30, kb_32, kb_40, kb_48, kb_50, kb_57, kb_59, kb_60, kb_63, kb_70, kb_78, kb_81, kb_82, kb_84, kb_97, kb_99, kb_100, kb_101, kb_119, kb_120, kb_122, ki_m1, ki_0, ki_1, ki_2, ki_3, ki_4, ki_5, ki_6, ki_7, ki_8, ki_9, ki_10, ki_11, ki_12, ki_13, ki_14, ki_15, ki_16, ki_17, ki_18, ki_19, ki_20, ki_21, ki_22, ki_23, ki_24, ki_25, ki_26, ki_27, ki_28, ki_29, ki_30, ki_31, ki_32, ki_33, ki_34, ki_35, ki_36, ki_37, ki_38, ki_39, ki_40, ki_41, ki_42, ki_43, ki_44, ki_45, ki_46, ki_47, ki_48, ki_49, ki_50, ki_51, ki_52, ki_53, ki_54, ki_55, ki_56, ki_57, ki_58, ki_59, ki_60, ki_61, ki_62, ki_63, ks_m2000, ks_m1006, ks_m1005, ks_m1004, ks_m1003, ks_m1002, ks_m1000, ks_200, ks_250, ks_255, ks_256, ks_320, ks_660, ks_999, ks_1000, ks_9999, ks_12345, ne_2, ne_10, t_0, t_40, t_41, t_42, t_43, t_44, t_45, t_46, t_47, t_64, t_65, t_66, t_67, t_68, t_69, t_70, t_71, t_72, t_73, t_74, t_75, t_76, t_77, t_78, t_79, t_80, t_81, t_82, r_0_0, r_0_1, r_0_2, r_0_4, r_0_5, r_0_6, r_0_7, r_40_0, r_40_5, r_44_0, r_44_1, r_64_0, r_64_1, r_64_3, r_64_4, r_64_5, r_64_6, r_64_7, r_64_8, r_64_9, r_64_12, r_64_17, r_64_18, r_64_19, r_64_20, r_64_22, r_64_23, r_64_24, r_64_25, t_1, t_14, t_27, t_2, t_15, t_28, Nat.reduceEqDiff, ne_eq, not_false_eq_true, false_implies, true_implies, implies_true, Nat.reduceAdd, Nat.reduceLeDiff, Nat.reduceLT, Nat.reduceMul, or_true, true_or, if_true, if_false, not_true_eq_false, and_self, bF, Nat.reduceBEq, Bool.false_and, Bool.and_false, Bool.or_self, Bool.or_false, Bool.false_or, Bool.false_eq_true, Int.reduceAdd, Bool.and_self, Bool.true_and, Bool.and_true, beq_self_eq_true, not_not_, i10_, i01_, List.length_nil, List.length_cons, true_and, and_true, false_and, and_false, kl_i, kl_a, kl_n, kl_l, tl_s, tl_n, rv_S, pd_0, pd_e, pd_r, pd_i, pd_l, hc, lpF10 hi hn, vp10 hi10, nI_10 hi10, nI_1, ← hg]
    simp only [forN_s] at ih
    grind
def P_X6_left : Sp0T := fun as h K => match as with
  | [.ref x, .int w] => x = 64 ∧ okE (estM h) ∧ K (some (.int (liveN (estM h) w))) h
  | _ => False
def S_X6_left : SpT := lift P_X6_left
def L_X6_left_41 : List Item := (41, .iload_n 2, [], nS) :: (42, .ireturn, [], nS) :: []
def L_X6_left_35 : List Item := (35, .iinc 3 1, [], nS) :: (38, .goto (-34), [4], nS) :: L_X6_left_41
def L_X6_left_4 : List Item := (4, .iload_n 3, [], nS) :: (5, .aload_n 0, [], nS) :: (6, .getfield 69, [6, 2, 0], nS) :: (9, .if_icmp .ge 32, [41], nS) :: (12, .aload_n 0, [], nS) :: (13, .getfield 22, [6, 5, 1], nS) :: (16, .iload_n 3, [], nS) :: (17, .iaload, [], nS) :: (18, .iload_n 1, [], nS) :: (19, .if_icmp .ne 16, [35], nS) :: (22, .aload_n 0, [], nS) :: (23, .getfield 34, [6, 9, 1], nS) :: (26, .iload_n 3, [], nS) :: (27, .iaload, [], nS) :: (28, .iconst 2, [], nS) :: (29, .if_icmp .eq 6, [35], nS) :: (32, .iinc 2 1, [], nS) :: L_X6_left_35
def L_X6_left_0 : List Item := (0, .iconst 0, [], nS) :: (1, .istore_n 2, [], nS) :: (2, .iconst 0, [], nS) :: (3, .istore_n 3, [], nS) :: (4, .nop, [], nS) :: L_X6_left_4
def L_X6_left : List Item := L_X6_left_0
theorem ok_X6_left : okB cX6_left L_X6_left = true := by decide +kernel
theorem lk_X6_left (l : Launch) : LKs l RX6 1 false L_X6_left := ⟨trivial, trivial, trivial, trivial, trivial, trivial, trivial, ⟨_, _, _, rfl, ⟨(RX6, TX6, 26), rfl, by decide, gT_of (List.mem_of_getElem? (i := 920) (by decide +kernel)) rfl⟩, rfl⟩, trivial, trivial, ⟨_, _, _, rfl, ⟨(RX6, TX6, 26), rfl, by decide, gT_of (List.mem_of_getElem? (i := 923) (by decide +kernel)) rfl⟩, rfl⟩, trivial, trivial, trivial, trivial, trivial, ⟨_, _, _, rfl, ⟨(RX6, TX6, 26), rfl, by decide, gT_of (List.mem_of_getElem? (i := 927) (by decide +kernel)) rfl⟩, rfl⟩, trivial, trivial, trivial, trivial, trivial, trivial, trivial, trivial, trivial, trivial⟩
theorem b_X6_left_0 : atL L_X6_left 0 = L_X6_left_0 := rfl
theorem b_X6_left_4 : atL L_X6_left 4 = L_X6_left_4 := rfl
theorem b_X6_left_35 : atL L_X6_left 35 = L_X6_left_35 := rfl
theorem b_X6_left_41 : atL L_X6_left 41 = L_X6_left_41 := rfl
theorem a_X6_left_35 : afw L_X6_left [4] 35 = L_X6_left_35 := rfl
theorem a_X6_left_41 : afw L_X6_left [4] 41 = L_X6_left_41 := rfl
theorem a_X6_left_4 : afw L_X6_left [4] 4 = [] := rfl
theorem yv_X6_left : YV yX6_left cX6_left 4 (some .int) 1 6 := ⟨⟨gT_of (List.mem_of_getElem? (i := 1191) (by decide +kernel)) rfl, gT_of (List.mem_of_getElem? (i := 74) (by decide +kernel)) rfl, ⟨by decide, by decide⟩, by decide +kernel, by decide⟩, gT_of (List.mem_of_getElem? (i := 1190) (by decide +kernel)) rfl, gT_of (List.mem_of_getElem? (i := 47) (by decide +kernel)) rfl, rfl⟩
theorem u_X6_left_0 : L_X6_left_0 = (0, .iconst 0, [], nS) :: (1, .istore_n 2, [], nS) :: (2, .iconst 0, [], nS) :: (3, .istore_n 3, [], nS) :: (4, .nop, [], nS) :: L_X6_left_4 := nr rfl
theorem u_X6_left_4 : L_X6_left_4 = (4, .iload_n 3, [], nS) :: (5, .aload_n 0, [], nS) :: (6, .getfield 69, [6, 2, 0], nS) :: (9, .if_icmp .ge 32, [41], nS) :: (12, .aload_n 0, [], nS) :: (13, .getfield 22, [6, 5, 1], nS) :: (16, .iload_n 3, [], nS) :: (17, .iaload, [], nS) :: (18, .iload_n 1, [], nS) :: (19, .if_icmp .ne 16, [35], nS) :: (22, .aload_n 0, [], nS) :: (23, .getfield 34, [6, 9, 1], nS) :: (26, .iload_n 3, [], nS) :: (27, .iaload, [], nS) :: (28, .iconst 2, [], nS) :: (29, .if_icmp .eq 6, [35], nS) :: (32, .iinc 2 1, [], nS) :: L_X6_left_35 := nr rfl
theorem u_X6_left_35 : L_X6_left_35 = (35, .iinc 3 1, [], nS) :: (38, .goto (-34), [4], nS) :: L_X6_left_41 := nr rfl
theorem u_X6_left_41 : L_X6_left_41 = (41, .iload_n 2, [], nS) :: (42, .ireturn, [], nS) :: [] := nr rfl
theorem z_X6_left_0 : atL L_X6_left 0 = L_X6_left_0 := nr rfl
theorem z_X6_left_4 : atL L_X6_left 4 = L_X6_left_4 := nr rfl
theorem z_X6_left_35 : atL L_X6_left 35 = L_X6_left_35 := nr rfl
theorem z_X6_left_41 : atL L_X6_left 41 = L_X6_left_41 := nr rfl
theorem j_X6_left_35 {G : List Item → SpS → List Value → List Value → AH → Prop} {J : Nat → SpS → List Value → List Value → AH → Prop} {S : SpS} {lv st : List Value} {h : AH} : jmp G J (afw L_X6_left [4] 35) 35 S lv st h = G L_X6_left_35 S lv st h := nr rfl
theorem j_X6_left_41 {G : List Item → SpS → List Value → List Value → AH → Prop} {J : Nat → SpS → List Value → List Value → AH → Prop} {S : SpS} {lv st : List Value} {h : AH} : jmp G J (afw L_X6_left [4] 41) 41 S lv st h = G L_X6_left_41 S lv st h := nr rfl
theorem j_X6_left_4 {G : List Item → SpS → List Value → List Value → AH → Prop} {J : Nat → SpS → List Value → List Value → AH → Prop} {S : SpS} {lv st : List Value} {h : AH} : jmp G J (afw L_X6_left [4] 4) 4 S lv st h = J 4 S lv st h := nr rfl
theorem e_X6_left {x : Addr} {w : Int32} {h : AH} {K2 : Option Value → SpS → AH → Prop} : S_X6_left SH0 [.ref x, .int w] h K2 = (fun (K : Option Value → AH → Prop) => x = 64 ∧ okE (estM h) ∧ K (some (.int (liveN (estM h) w))) h) (fun v h' => K2 v SH0 h') := (lift_e P_X6_left [.ref x, .int w] h K2).trans (nr rfl)
set_option maxRecDepth 100000 in
set_option maxHeartbeats 4000000 in
theorem c_X6_left (l : Launch) : Ct l yX6_left cX6_left 4 (some .int) 1 0 0 S_X6_left := by
  refine Ct0_mk L_X6_left [4] (by decide +kernel) (by decide) ok_X6_left (lk_X6_left l) ?_
  intro as h K hP
  match as, hP with
  | [.ref x, .int w], ⟨hx, ho, hK⟩ =>
  refine ⟨by simp [slotsN, Value.category], fun J hJ => ?_⟩
  subst hx
  have hc := em_c ho
  obtain ⟨-, hn, -⟩ := ho
  have hF := fun i k => em_f (h := h) (i := i) (k := k)
  generalize hE : estM h = E at *
  refine hJ 0 _ _ _ _ ?_
  simp only [z_X6_left_0, u_X6_left_0, u_X6_left_4, u_X6_left_35, u_X6_left_41, j_X6_left_4, j_X6_left_35, j_X6_left_41, ev_iconst, ev_istore_n2, ev_istore_n3, ev_nop, ev_iload_n3, ev_aload_n0, ev_getfI, ev_ic_ge, ev_getfR, ev_iaload, ev_iload_n1, ev_ic_ne, ev_ic_eq, ev_iinc2, ev_iinc3, ev_goto, ev_iload_n2, ev_iret, ro_i, ro_z, vq3_0, vq3_1, vq3_2, cq_0, cq_1, cq_2, capO_z, kb_6, kb_7, kb_8, kb_9, kb_10, kb_12, kb_16, kb_20, kb_21, kb_30, kb_32, kb_40, kb_48, kb_50, kb_57, kb_59, kb_60, kb_63, kb_70, kb_78, kb_81, kb_82, kb_84, kb_97, kb_99, kb_100, kb_101, kb_119, kb_120, kb_122, ki_m1, ki_0, ki_1, ki_2, ki_3, ki_4, ki_5, ki_6, ki_7, ki_8, ki_9, ki_10, ki_11, ki_12, ki_13, ki_14, ki_15, ki_16, ki_17, ki_18, ki_19, ki_20, ki_21, ki_22, ki_23, ki_24, ki_25, ki_26, ki_27, ki_28, ki_29, ki_30, ki_31, ki_32, ki_33, ki_34, ki_35, ki_36, ki_37, ki_38, ki_39, ki_40, ki_41, ki_42, ki_43, ki_44, ki_45, ki_46, ki_47, ki_48, ki_49, ki_50, ki_51, ki_52, ki_53, ki_54, ki_55, ki_56, ki_57, ki_58, ki_59, ki_60, ki_61, ki_62, ki_63, ks_m2000, ks_m1006, ks_m1005, ks_m1004, ks_m1003, ks_m1002, ks_m1000, ks_200, ks_250, ks_255, ks_256, ks_320, ks_660, ks_999, ks_1000, ks_9999, ks_12345, ne_2, ne_10, t_0, t_40, t_41, t_42, t_43, t_44, t_45, t_46, t_47, t_64, t_65, t_66, t_67, t_68, t_69, t_70, t_71, t_72, t_73, t_74, t_75, t_76, t_77, t_78, t_79, t_80, t_81, t_82, r_0_0, r_0_1, r_0_2, r_0_4, r_0_5, r_0_6, r_0_7, r_40_0, r_40_5, r_44_0, r_44_1, r_64_0, r_64_1, r_64_3, r_64_4, r_64_5, r_64_6, r_64_7, r_64_8, r_64_9, r_64_12, r_64_17, r_64_18, r_64_19, r_64_20, r_64_22, r_64_23, r_64_24, r_64_25, t_1, t_14, t_27, t_2, t_15, t_28, Nat.reduceEqDiff, ne_eq, not_false_eq_true, false_implies, true_implies, implies_true, Nat.reduceAdd, Nat.reduceLeDiff, Nat.reduceLT, Nat.reduceMul, or_true, true_or, if_true, if_false, not_true_eq_false, and_self, bF, Nat.reduceBEq, Bool.false_and, Bool.and_false, Bool.or_self, Bool.or_false, Bool.false_or, Bool.false_eq_true, Int.reduceAdd, Bool.and_self, Bool.true_and, Bool.and_true, beq_self_eq_true, not_not_, i10_, i01_, List.length_nil, List.length_cons, true_and, and_true, false_and, and_false, kl_i, kl_a, kl_n, kl_l, tl_s, tl_n, rv_S, pd_0, pd_e, pd_r, pd_i, pd_l]
  refine dn (P := fun i => J 4 SH0 [.ref 64, .int w, .int (forN i (fun i a => if eF E i 2 = w ∧ ¬ eF E i 6 = 2 then a + 1 else a) 0), .int (nI i)] [] h) (cnt E) ?_ (fun i hi ih => ?_)
  · refine hJ 4 _ _ _ _ ?_
    simp only [z_X6_left_4, u_X6_left_0, u_X6_left_4, u_X6_left_35, u_X6_left_41, j_X6_left_4, j_X6_left_35, j_X6_left_41, ev_iconst, ev_istore_n2, ev_istore_n3, ev_nop, ev_iload_n3, ev_aload_n0, ev_getfI, ev_ic_ge, ev_getfR, ev_iaload, ev_iload_n1, ev_ic_ne, ev_ic_eq, ev_iinc2, ev_iinc3, ev_goto, ev_iload_n2, ev_iret, ro_i, ro_z, vq3_0, vq3_1, vq3_2, cq_0, cq_1, cq_2, capO_z, kb_6, kb_7, kb_8, kb_9, kb_10, kb_12, kb_16, kb_20, kb_21, kb_30, kb_32, kb_40, kb_48, kb_50, kb_57, kb_59, kb_60, kb_63, kb_70, kb_78, kb_81, kb_82, kb_84, kb_97, kb_99, kb_100, kb_101, kb_119, kb_120, kb_122, ki_m1, ki_0, ki_1, ki_2, ki_3, ki_4, ki_5, ki_6, ki_7, ki_8, ki_9, ki_10, ki_11, ki_12, ki_13, ki_14, ki_15, ki_16, ki_17, ki_18, ki_19, ki_20, ki_21, ki_22, ki_23, ki_24, ki_25, ki_26, ki_27, ki_28, ki_29, ki_30, ki_31, ki_32, ki_33, ki_34, ki_35, ki_36, ki_37, ki_38, ki_39, ki_40, ki_41, ki_42, ki_43, ki_44, ki_45, ki_46, ki_47, ki_48, ki_49, ki_50, ki_51, ki_52, ki_53, ki_54, ki_55, ki_56, ki_57, ki_58, ki_59, ki_60, ki_61, ki_62, ki_63, ks_m2000, ks_m1006, ks_m1005, ks_m1004, ks_m1003, ks_m1002, ks_m1000, ks_200, ks_250, ks_255, ks_256, ks_320, ks_660, ks_999, ks_1000, ks_9999, ks_12345, ne_2, ne_10, t_0, t_40, t_41, t_42, t_43, t_44, t_45, t_46, t_47, t_64, t_65, t_66, t_67, t_68, t_69, t_70, t_71, t_72, t_73, t_74, t_75, t_76, t_77, t_78, t_79, t_80, t_81, t_82, r_0_0, r_0_1, r_0_2, r_0_4, r_0_5, r_0_6, r_0_7, r_40_0, r_40_5, r_44_0, r_44_1, r_64_0, r_64_1, r_64_3, r_64_4, r_64_5, r_64_6, r_64_7, r_64_8, r_64_9, r_64_12, r_64_17, r_64_18, r_64_19, r_64_20, r_64_22, r_64_23, r_64_24, r_64_25, t_1, t_14, t_27, t_2, t_15, t_28, Nat.reduceEqDiff, ne_eq, not_false_eq_true, false_implies, true_implies, implies_true, Nat.reduceAdd, Nat.reduceLeDiff, Nat.reduceLT, Nat.reduceMul, or_true, true_or, if_true, if_false, not_true_eq_false, and_self, bF, Nat.reduceBEq, Bool.false_and, Bool.and_false, Bool.or_self, Bool.or_false, Bool.false_or, Bool.false_eq_true, Int.reduceAdd, Bool.and_self, Bool.true_and, Bool.and_true, beq_self_eq_true, not_not_, i10_, i01_, List.length_nil, List.length_cons, true_and, and_true, false_and, and_false, kl_i, kl_a, kl_n, kl_l, tl_s, tl_n, rv_S, pd_0, pd_e, pd_r, pd_i, pd_l, hc, lpT10 hn]
    exact hK
  · have hi10 : i < 10 := by omega
    have hg : eF E i 6 = gI h 73 i := hF i 6 hi (by omega)
    have hg2 : eF E i 2 = gI h 69 i := hF i 2 hi (by omega)
    refine hJ 4 _ _ _ _ ?_
    simp only [z_X6_left_4, u_X6_left_0, u_X6_left_4, u_X6_left_35, u_X6_left_41, j_X6_left_4, j_X6_left_35, j_X6_left_41, ev_iconst, ev_istore_n2, ev_istore_n3, ev_nop, ev_iload_n3, ev_aload_n0, ev_getfI, ev_ic_ge, ev_getfR, ev_iaload, ev_iload_n1, ev_ic_ne, ev_ic_eq, ev_iinc2, ev_iinc3, ev_goto, ev_iload_n2, ev_iret, ro_i, ro_z, vq3_0, vq3_1, vq3_2, cq_0, cq_1, cq_2, capO_z, kb_6, kb_7, kb_8, kb_9, kb_10, kb_12, kb_16, kb_20, kb_21, kb_30, kb_32, kb_40, kb_48, kb_50, kb_57, kb_59, kb_60, kb_63, kb_70, kb_78, kb_81, kb_82, kb_84, kb_97, kb_99, kb_100, kb_101, kb_119, kb_120, kb_122, ki_m1, ki_0, ki_1, ki_2, ki_3, ki_4, ki_5, ki_6, ki_7, ki_8, ki_9, ki_10, ki_11, ki_12, ki_13, ki_14, ki_15, ki_16, ki_17, ki_18, ki_19, ki_20, ki_21, ki_22, ki_23, ki_24, ki_25, ki_26, ki_27, ki_28, ki_29, ki_30, ki_31, ki_32, ki_33, ki_34, ki_35, ki_36, ki_37, ki_38, ki_39, ki_40, ki_41, ki_42, ki_43, ki_44, ki_45, ki_46, ki_47, ki_48, ki_49, ki_50, ki_51, ki_52, ki_53, ki_54, ki_55, ki_56, ki_57, ki_58, ki_59, ki_60, ki_61, ki_62, ki_63, ks_m2000, ks_m1006, ks_m1005, ks_m1004, ks_m1003, ks_m1002, ks_m1000, ks_200, ks_250, ks_255, ks_256, ks_320, ks_660, ks_999, ks_1000, ks_9999, ks_12345, ne_2, ne_10, t_0, t_40, t_41, t_42, t_43, t_44, t_45, t_46, t_47, t_64, t_65, t_66, t_67, t_68, t_69, t_70, t_71, t_72, t_73, t_74, t_75, t_76, t_77, t_78, t_79, t_80, t_81, t_82, r_0_0, r_0_1, r_0_2, r_0_4, r_0_5, r_0_6, r_0_7, r_40_0, r_40_5, r_44_0, r_44_1, r_64_0, r_64_1, r_64_3, r_64_4, r_64_5, r_64_6, r_64_7, r_64_8, r_64_9, r_64_12, r_64_17, r_64_18, r_64_19, r_64_20, r_64_22, r_64_23, r_64_24, r_64_25, t_1, t_14, t_27, t_2, t_15, t_28, Nat.reduceEqDiff, ne_eq, not_false_eq_true, false_implies, true_implies, implies_true, Nat.reduceAdd, Nat.reduceLeDiff, Nat.reduceLT, Nat.reduceMul, or_true, true_or, if_true, if_false, not_true_eq_false, and_self, bF, Nat.reduceBEq, Bool.false_and, Bool.and_false, Bool.or_self, Bool.or_false, Bool.false_or, Bool.false_eq_true, Int.reduceAdd, Bool.and_self, Bool.true_and, Bool.and_true, beq_self_eq_true, not_not_, i10_, i01_, List.length_nil, List.length_cons, true_and, and_true, false_and, and_false, kl_i, kl_a, kl_n, kl_l, tl_s, tl_n, rv_S, pd_0, pd_e, pd_r, pd_i, pd_l, hc, lpF10 hi hn, vp10 hi10, nI_10 hi10, nI_1, ← hg, ← hg2]
    simp only [forN_s] at ih
    grind
def P_X6_allHave : Sp0T := fun as h K => match as with
  | [.ref x] => x = 64 ∧ okE (estM h) ∧ K (some (.int (sumF (estM h) 4))) h
  | _ => False
def S_X6_allHave : SpT := lift P_X6_allHave
def L_X6_allHave_27 : List Item := (27, .iload_n 1, [], nS) :: (28, .ireturn, [], nS) :: []
def L_X6_allHave_4 : List Item := (4, .iload_n 2, [], nS) :: (5, .aload_n 0, [], nS) :: (6, .getfield 69, [6, 2, 0], nS) :: (9, .if_icmp .ge 18, [27], nS) :: (12, .iload_n 1, [], nS) :: (13, .aload_n 0, [], nS) :: (14, .getfield 28, [6, 7, 1], nS) :: (17, .iload_n 2, [], nS) :: (18, .iaload, [], nS) :: (19, .iadd, [], nS) :: (20, .istore_n 1, [], nS) :: (21, .iinc 2 1, [], nS) :: (24, .goto (-20), [4], nS) :: L_X6_allHave_27
def L_X6_allHave_0 : List Item := (0, .iconst 0, [], nS) :: (1, .istore_n 1, [], nS) :: (2, .iconst 0, [], nS) :: (3, .istore_n 2, [], nS) :: (4, .nop, [], nS) :: L_X6_allHave_4
def L_X6_allHave : List Item := L_X6_allHave_0
theorem ok_X6_allHave : okB cX6_allHave L_X6_allHave = true := by decide +kernel
theorem lk_X6_allHave (l : Launch) : LKs l RX6 1 false L_X6_allHave := ⟨trivial, trivial, trivial, trivial, trivial, trivial, trivial, ⟨_, _, _, rfl, ⟨(RX6, TX6, 26), rfl, by decide, gT_of (List.mem_of_getElem? (i := 920) (by decide +kernel)) rfl⟩, rfl⟩, trivial, trivial, trivial, ⟨_, _, _, rfl, ⟨(RX6, TX6, 26), rfl, by decide, gT_of (List.mem_of_getElem? (i := 925) (by decide +kernel)) rfl⟩, rfl⟩, trivial, trivial, trivial, trivial, trivial, trivial, trivial, trivial, trivial⟩
theorem b_X6_allHave_0 : atL L_X6_allHave 0 = L_X6_allHave_0 := rfl
theorem b_X6_allHave_4 : atL L_X6_allHave 4 = L_X6_allHave_4 := rfl
theorem b_X6_allHave_27 : atL L_X6_allHave 27 = L_X6_allHave_27 := rfl
theorem a_X6_allHave_27 : afw L_X6_allHave [4] 27 = L_X6_allHave_27 := rfl
theorem a_X6_allHave_4 : afw L_X6_allHave [4] 4 = [] := rfl
theorem yv_X6_allHave : YV yX6_allHave cX6_allHave 3 (some .int) 0 6 := ⟨⟨gT_of (List.mem_of_getElem? (i := 1200) (by decide +kernel)) rfl, gT_of (List.mem_of_getElem? (i := 74) (by decide +kernel)) rfl, ⟨by decide, by decide⟩, by decide +kernel, by decide⟩, gT_of (List.mem_of_getElem? (i := 1199) (by decide +kernel)) rfl, gT_of (List.mem_of_getElem? (i := 49) (by decide +kernel)) rfl, rfl⟩
theorem u_X6_allHave_0 : L_X6_allHave_0 = (0, .iconst 0, [], nS) :: (1, .istore_n 1, [], nS) :: (2, .iconst 0, [], nS) :: (3, .istore_n 2, [], nS) :: (4, .nop, [], nS) :: L_X6_allHave_4 := nr rfl
theorem u_X6_allHave_4 : L_X6_allHave_4 = (4, .iload_n 2, [], nS) :: (5, .aload_n 0, [], nS) :: (6, .getfield 69, [6, 2, 0], nS) :: (9, .if_icmp .ge 18, [27], nS) :: (12, .iload_n 1, [], nS) :: (13, .aload_n 0, [], nS) :: (14, .getfield 28, [6, 7, 1], nS) :: (17, .iload_n 2, [], nS) :: (18, .iaload, [], nS) :: (19, .iadd, [], nS) :: (20, .istore_n 1, [], nS) :: (21, .iinc 2 1, [], nS) :: (24, .goto (-20), [4], nS) :: L_X6_allHave_27 := nr rfl
theorem u_X6_allHave_27 : L_X6_allHave_27 = (27, .iload_n 1, [], nS) :: (28, .ireturn, [], nS) :: [] := nr rfl
theorem z_X6_allHave_0 : atL L_X6_allHave 0 = L_X6_allHave_0 := nr rfl
theorem z_X6_allHave_4 : atL L_X6_allHave 4 = L_X6_allHave_4 := nr rfl
theorem z_X6_allHave_27 : atL L_X6_allHave 27 = L_X6_allHave_27 := nr rfl
theorem j_X6_allHave_27 {G : List Item → SpS → List Value → List Value → AH → Prop} {J : Nat → SpS → List Value → List Value → AH → Prop} {S : SpS} {lv st : List Value} {h : AH} : jmp G J (afw L_X6_allHave [4] 27) 27 S lv st h = G L_X6_allHave_27 S lv st h := nr rfl
theorem j_X6_allHave_4 {G : List Item → SpS → List Value → List Value → AH → Prop} {J : Nat → SpS → List Value → List Value → AH → Prop} {S : SpS} {lv st : List Value} {h : AH} : jmp G J (afw L_X6_allHave [4] 4) 4 S lv st h = J 4 S lv st h := nr rfl
theorem e_X6_allHave {x : Addr} {h : AH} {K2 : Option Value → SpS → AH → Prop} : S_X6_allHave SH0 [.ref x] h K2 = (fun (K : Option Value → AH → Prop) => x = 64 ∧ okE (estM h) ∧ K (some (.int (sumF (estM h) 4))) h) (fun v h' => K2 v SH0 h') := (lift_e P_X6_allHave [.ref x] h K2).trans (nr rfl)
set_option maxRecDepth 100000 in
set_option maxHeartbeats 4000000 in
theorem c_X6_allHave (l : Launch) : Ct l yX6_allHave cX6_allHave 3 (some .int) 1 0 0 S_X6_allHave := by
  refine Ct0_mk L_X6_allHave [4] (by decide +kernel) (by decide) ok_X6_allHave (lk_X6_allHave l) ?_
  intro as h K hP
  match as, hP with
  | [.ref x], ⟨hx, ho, hK⟩ =>
  refine ⟨by simp [slotsN, Value.category], fun J hJ => ?_⟩
  subst hx
  have hc := em_c ho
  obtain ⟨-, hn, -⟩ := ho
  have hF := fun i k => em_f (h := h) (i := i) (k := k)
  generalize hE : estM h = E at *
  refine hJ 0 _ _ _ _ ?_
  simp only [z_X6_allHave_0, u_X6_allHave_0, u_X6_allHave_4, u_X6_allHave_27, j_X6_allHave_4, j_X6_allHave_27, ev_iconst, ev_istore_n1, ev_istore_n2, ev_nop, ev_iload_n2, ev_aload_n0, ev_getfI, ev_ic_ge, ev_iload_n1, ev_getfR, ev_iaload, ev_iadd, ev_iinc2, ev_goto, ev_iret, ro_i, ro_z, vq3_0, vq3_1, vq3_2, cq_0, cq_1, cq_2, capO_z, kb_6, kb_7, kb_8, kb_9, kb_10, kb_12, kb_16, kb_20, kb_21, kb_30, kb_32, kb_40, kb_48, kb_50, kb_57, kb_59, kb_60, kb_63, kb_70, kb_78, kb_81, kb_82, kb_84, kb_97, kb_99, kb_100, kb_101, kb_119, kb_120, kb_122, ki_m1, ki_0, ki_1, ki_2, ki_3, ki_4, ki_5, ki_6, ki_7, ki_8, ki_9, ki_10, ki_11, ki_12, ki_13, ki_14, ki_15, ki_16, ki_17, ki_18, ki_19, ki_20, ki_21, ki_22, ki_23, ki_24, ki_25, ki_26, ki_27, ki_28, ki_29, ki_30, ki_31, ki_32, ki_33, ki_34, ki_35, ki_36, ki_37, ki_38, ki_39, ki_40, ki_41, ki_42, ki_43, ki_44, ki_45, ki_46, ki_47, ki_48, ki_49, ki_50, ki_51, ki_52, ki_53, ki_54, ki_55, ki_56, ki_57, ki_58, ki_59, ki_60, ki_61, ki_62, ki_63, ks_m2000, ks_m1006, ks_m1005, ks_m1004, ks_m1003, ks_m1002, ks_m1000, ks_200, ks_250, ks_255, ks_256, ks_320, ks_660, ks_999, ks_1000, ks_9999, ks_12345, ne_2, ne_10, t_0, t_40, t_41, t_42, t_43, t_44, t_45, t_46, t_47, t_64, t_65, t_66, t_67, t_68, t_69, t_70, t_71, t_72, t_73, t_74, t_75, t_76, t_77, t_78, t_79, t_80, t_81, t_82, r_0_0, r_0_1, r_0_2, r_0_4, r_0_5, r_0_6, r_0_7, r_40_0, r_40_5, r_44_0, r_44_1, r_64_0, r_64_1, r_64_3, r_64_4, r_64_5, r_64_6, r_64_7, r_64_8, r_64_9, r_64_12, r_64_17, r_64_18, r_64_19, r_64_20, r_64_22, r_64_23, r_64_24, r_64_25, t_1, t_14, t_27, t_2, t_15, t_28, Nat.reduceEqDiff, ne_eq, not_false_eq_true, false_implies, true_implies, implies_true, Nat.reduceAdd, Nat.reduceLeDiff, Nat.reduceLT, Nat.reduceMul, or_true, true_or, if_true, if_false, not_true_eq_false, and_self, bF, Nat.reduceBEq, Bool.false_and, Bool.and_false, Bool.or_self, Bool.or_false, Bool.false_or, Bool.false_eq_true, Int.reduceAdd, Bool.and_self, Bool.true_and, Bool.and_true, beq_self_eq_true, not_not_, i10_, i01_, List.length_nil, List.length_cons, true_and, and_true, false_and, and_false, kl_i, kl_a, kl_n, kl_l, tl_s, tl_n, rv_S, pd_0, pd_e, pd_r, pd_i, pd_l]
  refine dn (P := fun i => J 4 SH0 [.ref 64, .int (forN i (fun i a => a + eF E i 4) 0), .int (nI i)] [] h) (cnt E) ?_ (fun i hi ih => ?_)
  · refine hJ 4 _ _ _ _ ?_
    simp only [z_X6_allHave_4, u_X6_allHave_0, u_X6_allHave_4, u_X6_allHave_27, j_X6_allHave_4, j_X6_allHave_27, ev_iconst, ev_istore_n1, ev_istore_n2, ev_nop, ev_iload_n2, ev_aload_n0, ev_getfI, ev_ic_ge, ev_iload_n1, ev_getfR, ev_iaload, ev_iadd, ev_iinc2, ev_goto, ev_iret, ro_i, ro_z, vq3_0, vq3_1, vq3_2, cq_0, cq_1, cq_2, capO_z, kb_6, kb_7, kb_8, kb_9, kb_10, kb_12, kb_16, kb_20, kb_21, kb_30, kb_32, kb_40, kb_48, kb_50, kb_57, kb_59, kb_60, kb_63, kb_70, kb_78, kb_81, kb_82, kb_84, kb_97, kb_99, kb_100, kb_101, kb_119, kb_120, kb_122, ki_m1, ki_0, ki_1, ki_2, ki_3, ki_4, ki_5, ki_6, ki_7, ki_8, ki_9, ki_10, ki_11, ki_12, ki_13, ki_14, ki_15, ki_16, ki_17, ki_18, ki_19, ki_20, ki_21, ki_22, ki_23, ki_24, ki_25, ki_26, ki_27, ki_28, ki_29, ki_30, ki_31, ki_32, ki_33, ki_34, ki_35, ki_36, ki_37, ki_38, ki_39, ki_40, ki_41, ki_42, ki_43, ki_44, ki_45, ki_46, ki_47, ki_48, ki_49, ki_50, ki_51, ki_52, ki_53, ki_54, ki_55, ki_56, ki_57, ki_58, ki_59, ki_60, ki_61, ki_62, ki_63, ks_m2000, ks_m1006, ks_m1005, ks_m1004, ks_m1003, ks_m1002, ks_m1000, ks_200, ks_250, ks_255, ks_256, ks_320, ks_660, ks_999, ks_1000, ks_9999, ks_12345, ne_2, ne_10, t_0, t_40, t_41, t_42, t_43, t_44, t_45, t_46, t_47, t_64, t_65, t_66, t_67, t_68, t_69, t_70, t_71, t_72, t_73, t_74, t_75, t_76, t_77, t_78, t_79, t_80, t_81, t_82, r_0_0, r_0_1, r_0_2, r_0_4, r_0_5, r_0_6, r_0_7, r_40_0, r_40_5, r_44_0, r_44_1, r_64_0, r_64_1, r_64_3, r_64_4, r_64_5, r_64_6, r_64_7, r_64_8, r_64_9, r_64_12, r_64_17, r_64_18, r_64_19, r_64_20, r_64_22, r_64_23, r_64_24, r_64_25, t_1, t_14, t_27, t_2, t_15, t_28, Nat.reduceEqDiff, ne_eq, not_false_eq_true, false_implies, true_implies, implies_true, Nat.reduceAdd, Nat.reduceLeDiff, Nat.reduceLT, Nat.reduceMul, or_true, true_or, if_true, if_false, not_true_eq_false, and_self, bF, Nat.reduceBEq, Bool.false_and, Bool.and_false, Bool.or_self, Bool.or_false, Bool.false_or, Bool.false_eq_true, Int.reduceAdd, Bool.and_self, Bool.true_and, Bool.and_true, beq_self_eq_true, not_not_, i10_, i01_, List.length_nil, List.length_cons, true_and, and_true, false_and, and_false, kl_i, kl_a, kl_n, kl_l, tl_s, tl_n, rv_S, pd_0, pd_e, pd_r, pd_i, pd_l, hc, lpT10 hn]
    exact hK
  · have hi10 : i < 10 := by omega
    have hg : eF E i 4 = gI h 71 i := hF i 4 hi (by omega)
    refine hJ 4 _ _ _ _ ?_
    simp only [z_X6_allHave_4, u_X6_allHave_0, u_X6_allHave_4, u_X6_allHave_27, j_X6_allHave_4, j_X6_allHave_27, ev_iconst, ev_istore_n1, ev_istore_n2, ev_nop, ev_iload_n2, ev_aload_n0, ev_getfI, ev_ic_ge, ev_iload_n1, ev_getfR, ev_iaload, ev_iadd, ev_iinc2, ev_goto, ev_iret, ro_i, ro_z, vq3_0, vq3_1, vq3_2, cq_0, cq_1, cq_2, capO_z, kb_6, kb_7, kb_8, kb_9, kb_10, kb_12, kb_16, kb_20, kb_21, kb_30, kb_32, kb_40, kb_48, kb_50, kb_57, kb_59, kb_60, kb_63, kb_70, kb_78, kb_81, kb_82, kb_84, kb_97, kb_99, kb_100, kb_101, kb_119, kb_120, kb_122, ki_m1, ki_0, ki_1, ki_2, ki_3, ki_4, ki_5, ki_6, ki_7, ki_8, ki_9, ki_10, ki_11, ki_12, ki_13, ki_14, ki_15, ki_16, ki_17, ki_18, ki_19, ki_20, ki_21, ki_22, ki_23, ki_24, ki_25, ki_26, ki_27, ki_28, ki_29, ki_30, ki_31, ki_32, ki_33, ki_34, ki_35, ki_36, ki_37, ki_38, ki_39, ki_40, ki_41, ki_42, ki_43, ki_44, ki_45, ki_46, ki_47, ki_48, ki_49, ki_50, ki_51, ki_52, ki_53, ki_54, ki_55, ki_56, ki_57, ki_58, ki_59, ki_60, ki_61, ki_62, ki_63, ks_m2000, ks_m1006, ks_m1005, ks_m1004, ks_m1003, ks_m1002, ks_m1000, ks_200, ks_250, ks_255, ks_256, ks_320, ks_660, ks_999, ks_1000, ks_9999, ks_12345, ne_2, ne_10, t_0, t_40, t_41, t_42, t_43, t_44, t_45, t_46, t_47, t_64, t_65, t_66, t_67, t_68, t_69, t_70, t_71, t_72, t_73, t_74, t_75, t_76, t_77, t_78, t_79, t_80, t_81, t_82, r_0_0, r_0_1, r_0_2, r_0_4, r_0_5, r_0_6, r_0_7, r_40_0, r_40_5, r_44_0, r_44_1, r_64_0, r_64_1, r_64_3, r_64_4, r_64_5, r_64_6, r_64_7, r_64_8, r_64_9, r_64_12, r_64_17, r_64_18, r_64_19, r_64_20, r_64_22, r_64_23, r_64_24, r_64_25, t_1, t_14, t_27, t_2, t_15, t_28, Nat.reduceEqDiff, ne_eq, not_false_eq_true, false_implies, true_implies, implies_true, Nat.reduceAdd, Nat.reduceLeDiff, Nat.reduceLT, Nat.reduceMul, or_true, true_or, if_true, if_false, not_true_eq_false, and_self, bF, Nat.reduceBEq, Bool.false_and, Bool.and_false, Bool.or_self, Bool.or_false, Bool.false_or, Bool.false_eq_true, Int.reduceAdd, Bool.and_self, Bool.true_and, Bool.and_true, beq_self_eq_true, not_not_, i10_, i01_, List.length_nil, List.length_cons, true_and, and_true, false_and, and_false, kl_i, kl_a, kl_n, kl_l, tl_s, tl_n, rv_S, pd_0, pd_e, pd_r, pd_i, pd_l, hc, lpF10 hi hn, vp10 hi10, nI_10 hi10, nI_1, ← hg]
    simp only [forN_s] at ih
    exact ih
def P_X6_fromOne : Sp0T := fun as h K => match as with
  | [.ref x, .int w] => x = 64 ∧ okE (estM h) ∧ K (some (.int (fromN (estM h) w))) h
  | _ => False
def S_X6_fromOne : SpT := lift P_X6_fromOne
def L_X6_fromOne_31 : List Item := (31, .iload_n 2, [], nS) :: (32, .ireturn, [], nS) :: []
def L_X6_fromOne_25 : List Item := (25, .iinc 3 1, [], nS) :: (28, .goto (-24), [4], nS) :: L_X6_fromOne_31
def L_X6_fromOne_4 : List Item := (4, .iload_n 3, [], nS) :: (5, .aload_n 0, [], nS) :: (6, .getfield 69, [6, 2, 0], nS) :: (9, .if_icmp .ge 22, [31], nS) :: (12, .aload_n 0, [], nS) :: (13, .getfield 22, [6, 5, 1], nS) :: (16, .iload_n 3, [], nS) :: (17, .iaload, [], nS) :: (18, .iload_n 1, [], nS) :: (19, .if_icmp .ne 6, [25], nS) :: (22, .iinc 2 1, [], nS) :: L_X6_fromOne_25
def L_X6_fromOne_0 : List Item := (0, .iconst 0, [], nS) :: (1, .istore_n 2, [], nS) :: (2, .iconst 0, [], nS) :: (3, .istore_n 3, [], nS) :: (4, .nop, [], nS) :: L_X6_fromOne_4
def L_X6_fromOne : List Item := L_X6_fromOne_0
theorem ok_X6_fromOne : okB cX6_fromOne L_X6_fromOne = true := by decide +kernel
theorem lk_X6_fromOne (l : Launch) : LKs l RX6 1 false L_X6_fromOne := ⟨trivial, trivial, trivial, trivial, trivial, trivial, trivial, ⟨_, _, _, rfl, ⟨(RX6, TX6, 26), rfl, by decide, gT_of (List.mem_of_getElem? (i := 920) (by decide +kernel)) rfl⟩, rfl⟩, trivial, trivial, ⟨_, _, _, rfl, ⟨(RX6, TX6, 26), rfl, by decide, gT_of (List.mem_of_getElem? (i := 923) (by decide +kernel)) rfl⟩, rfl⟩, trivial, trivial, trivial, trivial, trivial, trivial, trivial, trivial, trivial, trivial⟩
theorem b_X6_fromOne_0 : atL L_X6_fromOne 0 = L_X6_fromOne_0 := rfl
theorem b_X6_fromOne_4 : atL L_X6_fromOne 4 = L_X6_fromOne_4 := rfl
theorem b_X6_fromOne_25 : atL L_X6_fromOne 25 = L_X6_fromOne_25 := rfl
theorem b_X6_fromOne_31 : atL L_X6_fromOne 31 = L_X6_fromOne_31 := rfl
theorem a_X6_fromOne_25 : afw L_X6_fromOne [4] 25 = L_X6_fromOne_25 := rfl
theorem a_X6_fromOne_31 : afw L_X6_fromOne [4] 31 = L_X6_fromOne_31 := rfl
theorem a_X6_fromOne_4 : afw L_X6_fromOne [4] 4 = [] := rfl
theorem yv_X6_fromOne : YV yX6_fromOne cX6_fromOne 4 (some .int) 1 6 := ⟨⟨gT_of (List.mem_of_getElem? (i := 1252) (by decide +kernel)) rfl, gT_of (List.mem_of_getElem? (i := 74) (by decide +kernel)) rfl, ⟨by decide, by decide⟩, by decide +kernel, by decide⟩, gT_of (List.mem_of_getElem? (i := 1251) (by decide +kernel)) rfl, gT_of (List.mem_of_getElem? (i := 54) (by decide +kernel)) rfl, rfl⟩
theorem u_X6_fromOne_0 : L_X6_fromOne_0 = (0, .iconst 0, [], nS) :: (1, .istore_n 2, [], nS) :: (2, .iconst 0, [], nS) :: (3, .istore_n 3, [], nS) :: (4, .nop, [], nS) :: L_X6_fromOne_4 := nr rfl
theorem u_X6_fromOne_4 : L_X6_fromOne_4 = (4, .iload_n 3, [], nS) :: (5, .aload_n 0, [], nS) :: (6, .getfield 69, [6, 2, 0], nS) :: (9, .if_icmp .ge 22, [31], nS) :: (12, .aload_n 0, [], nS) :: (13, .getfield 22, [6, 5, 1], nS) :: (16, .iload_n 3, [], nS) :: (17, .iaload, [], nS) :: (18, .iload_n 1, [], nS) :: (19, .if_icmp .ne 6, [25], nS) :: (22, .iinc 2 1, [], nS) :: L_X6_fromOne_25 := nr rfl
theorem u_X6_fromOne_25 : L_X6_fromOne_25 = (25, .iinc 3 1, [], nS) :: (28, .goto (-24), [4], nS) :: L_X6_fromOne_31 := nr rfl
theorem u_X6_fromOne_31 : L_X6_fromOne_31 = (31, .iload_n 2, [], nS) :: (32, .ireturn, [], nS) :: [] := nr rfl
theorem z_X6_fromOne_0 : atL L_X6_fromOne 0 = L_X6_fromOne_0 := nr rfl
theorem z_X6_fromOne_4 : atL L_X6_fromOne 4 = L_X6_fromOne_4 := nr rfl
theorem z_X6_fromOne_25 : atL L_X6_fromOne 25 = L_X6_fromOne_25 := nr rfl
theorem z_X6_fromOne_31 : atL L_X6_fromOne 31 = L_X6_fromOne_31 := nr rfl
theorem j_X6_fromOne_25 {G : List Item → SpS → List Value → List Value → AH → Prop} {J : Nat → SpS → List Value → List Value → AH → Prop} {S : SpS} {lv st : List Value} {h : AH} : jmp G J (afw L_X6_fromOne [4] 25) 25 S lv st h = G L_X6_fromOne_25 S lv st h := nr rfl
theorem j_X6_fromOne_31 {G : List Item → SpS → List Value → List Value → AH → Prop} {J : Nat → SpS → List Value → List Value → AH → Prop} {S : SpS} {lv st : List Value} {h : AH} : jmp G J (afw L_X6_fromOne [4] 31) 31 S lv st h = G L_X6_fromOne_31 S lv st h := nr rfl
theorem j_X6_fromOne_4 {G : List Item → SpS → List Value → List Value → AH → Prop} {J : Nat → SpS → List Value → List Value → AH → Prop} {S : SpS} {lv st : List Value} {h : AH} : jmp G J (afw L_X6_fromOne [4] 4) 4 S lv st h = J 4 S lv st h := nr rfl
theorem e_X6_fromOne {x : Addr} {w : Int32} {h : AH} {K2 : Option Value → SpS → AH → Prop} : S_X6_fromOne SH0 [.ref x, .int w] h K2 = (fun (K : Option Value → AH → Prop) => x = 64 ∧ okE (estM h) ∧ K (some (.int (fromN (estM h) w))) h) (fun v h' => K2 v SH0 h') := (lift_e P_X6_fromOne [.ref x, .int w] h K2).trans (nr rfl)
set_option maxRecDepth 100000 in
set_option maxHeartbeats 4000000 in
theorem c_X6_fromOne (l : Launch) : Ct l yX6_fromOne cX6_fromOne 4 (some .int) 1 0 0 S_X6_fromOne := by
  refine Ct0_mk L_X6_fromOne [4] (by decide +kernel) (by decide) ok_X6_fromOne (lk_X6_fromOne l) ?_
  intro as h K hP
  match as, hP with
  | [.ref x, .int w], ⟨hx, ho, hK⟩ =>
  refine ⟨by simp [slotsN, Value.category], fun J hJ => ?_⟩
  subst hx
  have hc := em_c ho
  obtain ⟨-, hn, -⟩ := ho
  have hF := fun i k => em_f (h := h) (i := i) (k := k)
  generalize hE : estM h = E at *
  refine hJ 0 _ _ _ _ ?_
  simp only [z_X6_fromOne_0, u_X6_fromOne_0, u_X6_fromOne_4, u_X6_fromOne_25, u_X6_fromOne_31, j_X6_fromOne_4, j_X6_fromOne_25, j_X6_fromOne_31, ev_iconst, ev_istore_n2, ev_istore_n3, ev_nop, ev_iload_n3, ev_aload_n0, ev_getfI, ev_ic_ge, ev_getfR, ev_iaload, ev_iload_n1, ev_ic_ne, ev_iinc2, ev_iinc3, ev_goto, ev_iload_n2, ev_iret, ro_i, ro_z, vq3_0, vq3_1, vq3_2, cq_0, cq_1, cq_2, capO_z, kb_6, kb_7, kb_8, kb_9, kb_10, kb_12, kb_16, kb_20, kb_21, kb_30, kb_32, kb_40, kb_48, kb_50, kb_57, kb_59, kb_60, kb_63, kb_70, kb_78, kb_81, kb_82, kb_84, kb_97, kb_99, kb_100, kb_101, kb_119, kb_120, kb_122, ki_m1, ki_0, ki_1, ki_2, ki_3, ki_4, ki_5, ki_6, ki_7, ki_8, ki_9, ki_10, ki_11, ki_12, ki_13, ki_14, ki_15, ki_16, ki_17, ki_18, ki_19, ki_20, ki_21, ki_22, ki_23, ki_24, ki_25, ki_26, ki_27, ki_28, ki_29, ki_30, ki_31, ki_32, ki_33, ki_34, ki_35, ki_36, ki_37, ki_38, ki_39, ki_40, ki_41, ki_42, ki_43, ki_44, ki_45, ki_46, ki_47, ki_48, ki_49, ki_50, ki_51, ki_52, ki_53, ki_54, ki_55, ki_56, ki_57, ki_58, ki_59, ki_60, ki_61, ki_62, ki_63, ks_m2000, ks_m1006, ks_m1005, ks_m1004, ks_m1003, ks_m1002, ks_m1000, ks_200, ks_250, ks_255, ks_256, ks_320, ks_660, ks_999, ks_1000, ks_9999, ks_12345, ne_2, ne_10, t_0, t_40, t_41, t_42, t_43, t_44, t_45, t_46, t_47, t_64, t_65, t_66, t_67, t_68, t_69, t_70, t_71, t_72, t_73, t_74, t_75, t_76, t_77, t_78, t_79, t_80, t_81, t_82, r_0_0, r_0_1, r_0_2, r_0_4, r_0_5, r_0_6, r_0_7, r_40_0, r_40_5, r_44_0, r_44_1, r_64_0, r_64_1, r_64_3, r_64_4, r_64_5, r_64_6, r_64_7, r_64_8, r_64_9, r_64_12, r_64_17, r_64_18, r_64_19, r_64_20, r_64_22, r_64_23, r_64_24, r_64_25, t_1, t_14, t_27, t_2, t_15, t_28, Nat.reduceEqDiff, ne_eq, not_false_eq_true, false_implies, true_implies, implies_true, Nat.reduceAdd, Nat.reduceLeDiff, Nat.reduceLT, Nat.reduceMul, or_true, true_or, if_true, if_false, not_true_eq_false, and_self, bF, Nat.reduceBEq, Bool.false_and, Bool.and_false, Bool.or_self, Bool.or_false, Bool.false_or, Bool.false_eq_true, Int.reduceAdd, Bool.and_self, Bool.true_and, Bool.and_true, beq_self_eq_true, not_not_, i10_, i01_, List.length_nil, List.length_cons, true_and, and_true, false_and, and_false, kl_i, kl_a, kl_n, kl_l, tl_s, tl_n, rv_S, pd_0, pd_e, pd_r, pd_i, pd_l]
  refine dn (P := fun i => J 4 SH0 [.ref 64, .int w, .int (forN i (fun i a => if eF E i 2 = w then a + 1 else a) 0), .int (nI i)] [] h) (cnt E) ?_ (fun i hi ih => ?_)
  · refine hJ 4 _ _ _ _ ?_
    simp only [z_X6_fromOne_4, u_X6_fromOne_0, u_X6_fromOne_4, u_X6_fromOne_25, u_X6_fromOne_31, j_X6_fromOne_4, j_X6_fromOne_25, j_X6_fromOne_31, ev_iconst, ev_istore_n2, ev_istore_n3, ev_nop, ev_iload_n3, ev_aload_n0, ev_getfI, ev_ic_ge, ev_getfR, ev_iaload, ev_iload_n1, ev_ic_ne, ev_iinc2, ev_iinc3, ev_goto, ev_iload_n2, ev_iret, ro_i, ro_z, vq3_0, vq3_1, vq3_2, cq_0, cq_1, cq_2, capO_z, kb_6, kb_7, kb_8, kb_9, kb_10, kb_12, kb_16, kb_20, kb_21, kb_30, kb_32, kb_40, kb_48, kb_50, kb_57, kb_59, kb_60, kb_63, kb_70, kb_78, kb_81, kb_82, kb_84, kb_97, kb_99, kb_100, kb_101, kb_119, kb_120, kb_122, ki_m1, ki_0, ki_1, ki_2, ki_3, ki_4, ki_5, ki_6, ki_7, ki_8, ki_9, ki_10, ki_11, ki_12, ki_13, ki_14, ki_15, ki_16, ki_17, ki_18, ki_19, ki_20, ki_21, ki_22, ki_23, ki_24, ki_25, ki_26, ki_27, ki_28, ki_29, ki_30, ki_31, ki_32, ki_33, ki_34, ki_35, ki_36, ki_37, ki_38, ki_39, ki_40, ki_41, ki_42, ki_43, ki_44, ki_45, ki_46, ki_47, ki_48, ki_49, ki_50, ki_51, ki_52, ki_53, ki_54, ki_55, ki_56, ki_57, ki_58, ki_59, ki_60, ki_61, ki_62, ki_63, ks_m2000, ks_m1006, ks_m1005, ks_m1004, ks_m1003, ks_m1002, ks_m1000, ks_200, ks_250, ks_255, ks_256, ks_320, ks_660, ks_999, ks_1000, ks_9999, ks_12345, ne_2, ne_10, t_0, t_40, t_41, t_42, t_43, t_44, t_45, t_46, t_47, t_64, t_65, t_66, t_67, t_68, t_69, t_70, t_71, t_72, t_73, t_74, t_75, t_76, t_77, t_78, t_79, t_80, t_81, t_82, r_0_0, r_0_1, r_0_2, r_0_4, r_0_5, r_0_6, r_0_7, r_40_0, r_40_5, r_44_0, r_44_1, r_64_0, r_64_1, r_64_3, r_64_4, r_64_5, r_64_6, r_64_7, r_64_8, r_64_9, r_64_12, r_64_17, r_64_18, r_64_19, r_64_20, r_64_22, r_64_23, r_64_24, r_64_25, t_1, t_14, t_27, t_2, t_15, t_28, Nat.reduceEqDiff, ne_eq, not_false_eq_true, false_implies, true_implies, implies_true, Nat.reduceAdd, Nat.reduceLeDiff, Nat.reduceLT, Nat.reduceMul, or_true, true_or, if_true, if_false, not_true_eq_false, and_self, bF, Nat.reduceBEq, Bool.false_and, Bool.and_false, Bool.or_self, Bool.or_false, Bool.false_or, Bool.false_eq_true, Int.reduceAdd, Bool.and_self, Bool.true_and, Bool.and_true, beq_self_eq_true, not_not_, i10_, i01_, List.length_nil, List.length_cons, true_and, and_true, false_and, and_false, kl_i, kl_a, kl_n, kl_l, tl_s, tl_n, rv_S, pd_0, pd_e, pd_r, pd_i, pd_l, hc, lpT10 hn]
    exact hK
  · have hi10 : i < 10 := by omega
    have hg2 : eF E i 2 = gI h 69 i := hF i 2 hi (by omega)
    refine hJ 4 _ _ _ _ ?_
    simp only [z_X6_fromOne_4, u_X6_fromOne_0, u_X6_fromOne_4, u_X6_fromOne_25, u_X6_fromOne_31, j_X6_fromOne_4, j_X6_fromOne_25, j_X6_fromOne_31, ev_iconst, ev_istore_n2, ev_istore_n3, ev_nop, ev_iload_n3, ev_aload_n0, ev_getfI, ev_ic_ge, ev_getfR, ev_iaload, ev_iload_n1, ev_ic_ne, ev_iinc2, ev_iinc3, ev_goto, ev_iload_n2, ev_iret, ro_i, ro_z, vq3_0, vq3_1, vq3_2, cq_0, cq_1, cq_2, capO_z, kb_6, kb_7, kb_8, kb_9, kb_10, kb_12, kb_16, kb_20, kb_21, kb_30, kb_32, kb_40, kb_48, kb_50, kb_57, kb_59, kb_60, kb_63, kb_70, kb_78, kb_81, kb_82, kb_84, kb_97, kb_99, kb_100, kb_101, kb_119, kb_120, kb_122, ki_m1, ki_0, ki_1, ki_2, ki_3, ki_4, ki_5, ki_6, ki_7, ki_8, ki_9, ki_10, ki_11, ki_12, ki_13, ki_14, ki_15, ki_16, ki_17, ki_18, ki_19, ki_20, ki_21, ki_22, ki_23, ki_24, ki_25, ki_26, ki_27, ki_28, ki_29, ki_30, ki_31, ki_32, ki_33, ki_34, ki_35, ki_36, ki_37, ki_38, ki_39, ki_40, ki_41, ki_42, ki_43, ki_44, ki_45, ki_46, ki_47, ki_48, ki_49, ki_50, ki_51, ki_52, ki_53, ki_54, ki_55, ki_56, ki_57, ki_58, ki_59, ki_60, ki_61, ki_62, ki_63, ks_m2000, ks_m1006, ks_m1005, ks_m1004, ks_m1003, ks_m1002, ks_m1000, ks_200, ks_250, ks_255, ks_256, ks_320, ks_660, ks_999, ks_1000, ks_9999, ks_12345, ne_2, ne_10, t_0, t_40, t_41, t_42, t_43, t_44, t_45, t_46, t_47, t_64, t_65, t_66, t_67, t_68, t_69, t_70, t_71, t_72, t_73, t_74, t_75, t_76, t_77, t_78, t_79, t_80, t_81, t_82, r_0_0, r_0_1, r_0_2, r_0_4, r_0_5, r_0_6, r_0_7, r_40_0, r_40_5, r_44_0, r_44_1, r_64_0, r_64_1, r_64_3, r_64_4, r_64_5, r_64_6, r_64_7, r_64_8, r_64_9, r_64_12, r_64_17, r_64_18, r_64_19, r_64_20, r_64_22, r_64_23, r_64_24, r_64_25, t_1, t_14, t_27, t_2, t_15, t_28, Nat.reduceEqDiff, ne_eq, not_false_eq_true, false_implies, true_implies, implies_true, Nat.reduceAdd, Nat.reduceLeDiff, Nat.reduceLT, Nat.reduceMul, or_true, true_or, if_true, if_false, not_true_eq_false, and_self, bF, Nat.reduceBEq, Bool.false_and, Bool.and_false, Bool.or_self, Bool.or_false, Bool.false_or, Bool.false_eq_true, Int.reduceAdd, Bool.and_self, Bool.true_and, Bool.and_true, beq_self_eq_true, not_not_, i10_, i01_, List.length_nil, List.length_cons, true_and, and_true, false_and, and_false, kl_i, kl_a, kl_n, kl_l, tl_s, tl_n, rv_S, pd_0, pd_e, pd_r, pd_i, pd_l, hc, lpF10 hi hn, vp10 hi10, nI_10 hi10, nI_1, ← hg2]
    simp only [forN_s] at ih
    grind
def soS (E : ES) (w : Int32) (n : Nat) : Int32 := forN n (fun i a => if eF E i 6 = w then a ||| ((1 : Int32) <<< (nI i &&& 31)) else a) 0
def soE (E : ES) (w : Int32) : Int32 := soS E w (cnt E)
theorem soS_s (E : ES) (w : Int32) (n : Nat) : soS E w (n + 1) = if eF E n 6 = w then soS E w n ||| ((1 : Int32) <<< (nI n &&& 31)) else soS E w n := rfl
def P_X6_areSo : Sp0T := fun as h K => match as with
  | [.ref x, .int w] => x = 64 ∧ okE (estM h) ∧ K (some (.int (soE (estM h) w))) h
  | _ => False
def S_X6_areSo : SpT := lift P_X6_areSo
def L_X6_areSo_34 : List Item := (34, .iload_n 2, [], nS) :: (35, .ireturn, [], nS) :: []
def L_X6_areSo_28 : List Item := (28, .iinc 3 1, [], nS) :: (31, .goto (-27), [4], nS) :: L_X6_areSo_34
def L_X6_areSo_4 : List Item := (4, .iload_n 3, [], nS) :: (5, .aload_n 0, [], nS) :: (6, .getfield 69, [6, 2, 0], nS) :: (9, .if_icmp .ge 25, [34], nS) :: (12, .aload_n 0, [], nS) :: (13, .getfield 34, [6, 9, 1], nS) :: (16, .iload_n 3, [], nS) :: (17, .iaload, [], nS) :: (18, .iload_n 1, [], nS) :: (19, .if_icmp .ne 9, [28], nS) :: (22, .iload_n 2, [], nS) :: (23, .iconst 1, [], nS) :: (24, .iload_n 3, [], nS) :: (25, .ishl, [], nS) :: (26, .ior, [], nS) :: (27, .istore_n 2, [], nS) :: L_X6_areSo_28
def L_X6_areSo_0 : List Item := (0, .iconst 0, [], nS) :: (1, .istore_n 2, [], nS) :: (2, .iconst 0, [], nS) :: (3, .istore_n 3, [], nS) :: (4, .nop, [], nS) :: L_X6_areSo_4
def L_X6_areSo : List Item := L_X6_areSo_0
theorem ok_X6_areSo : okB cX6_areSo L_X6_areSo = true := by decide +kernel
theorem lk_X6_areSo (l : Launch) : LKs l RX6 1 false L_X6_areSo := ⟨trivial, trivial, trivial, trivial, trivial, trivial, trivial, ⟨_, _, _, rfl, ⟨(RX6, TX6, 26), rfl, by decide, gT_of (List.mem_of_getElem? (i := 920) (by decide +kernel)) rfl⟩, rfl⟩, trivial, trivial, ⟨_, _, _, rfl, ⟨(RX6, TX6, 26), rfl, by decide, gT_of (List.mem_of_getElem? (i := 927) (by decide +kernel)) rfl⟩, rfl⟩, trivial, trivial, trivial, trivial, trivial, trivial, trivial, trivial, trivial, trivial, trivial, trivial, trivial, trivial, trivial⟩
theorem b_X6_areSo_0 : atL L_X6_areSo 0 = L_X6_areSo_0 := rfl
theorem b_X6_areSo_4 : atL L_X6_areSo 4 = L_X6_areSo_4 := rfl
theorem b_X6_areSo_28 : atL L_X6_areSo 28 = L_X6_areSo_28 := rfl
theorem b_X6_areSo_34 : atL L_X6_areSo 34 = L_X6_areSo_34 := rfl
theorem a_X6_areSo_28 : afw L_X6_areSo [4] 28 = L_X6_areSo_28 := rfl
theorem a_X6_areSo_34 : afw L_X6_areSo [4] 34 = L_X6_areSo_34 := rfl
theorem a_X6_areSo_4 : afw L_X6_areSo [4] 4 = [] := rfl
theorem yv_X6_areSo : YV yX6_areSo cX6_areSo 4 (some .int) 1 6 := ⟨⟨gT_of (List.mem_of_getElem? (i := 1195) (by decide +kernel)) rfl, gT_of (List.mem_of_getElem? (i := 74) (by decide +kernel)) rfl, ⟨by decide, by decide⟩, by decide +kernel, by decide⟩, gT_of (List.mem_of_getElem? (i := 1194) (by decide +kernel)) rfl, gT_of (List.mem_of_getElem? (i := 48) (by decide +kernel)) rfl, rfl⟩
theorem u_X6_areSo_0 : L_X6_areSo_0 = (0, .iconst 0, [], nS) :: (1, .istore_n 2, [], nS) :: (2, .iconst 0, [], nS) :: (3, .istore_n 3, [], nS) :: (4, .nop, [], nS) :: L_X6_areSo_4 := nr rfl
theorem u_X6_areSo_4 : L_X6_areSo_4 = (4, .iload_n 3, [], nS) :: (5, .aload_n 0, [], nS) :: (6, .getfield 69, [6, 2, 0], nS) :: (9, .if_icmp .ge 25, [34], nS) :: (12, .aload_n 0, [], nS) :: (13, .getfield 34, [6, 9, 1], nS) :: (16, .iload_n 3, [], nS) :: (17, .iaload, [], nS) :: (18, .iload_n 1, [], nS) :: (19, .if_icmp .ne 9, [28], nS) :: (22, .iload_n 2, [], nS) :: (23, .iconst 1, [], nS) :: (24, .iload_n 3, [], nS) :: (25, .ishl, [], nS) :: (26, .ior, [], nS) :: (27, .istore_n 2, [], nS) :: L_X6_areSo_28 := nr rfl
theorem u_X6_areSo_28 : L_X6_areSo_28 = (28, .iinc 3 1, [], nS) :: (31, .goto (-27), [4], nS) :: L_X6_areSo_34 := nr rfl
theorem u_X6_areSo_34 : L_X6_areSo_34 = (34, .iload_n 2, [], nS) :: (35, .ireturn, [], nS) :: [] := nr rfl
theorem z_X6_areSo_0 : atL L_X6_areSo 0 = L_X6_areSo_0 := nr rfl
theorem z_X6_areSo_4 : atL L_X6_areSo 4 = L_X6_areSo_4 := nr rfl
theorem z_X6_areSo_28 : atL L_X6_areSo 28 = L_X6_areSo_28 := nr rfl
theorem z_X6_areSo_34 : atL L_X6_areSo 34 = L_X6_areSo_34 := nr rfl
theorem j_X6_areSo_28 {G : List Item → SpS → List Value → List Value → AH → Prop} {J : Nat → SpS → List Value → List Value → AH → Prop} {S : SpS} {lv st : List Value} {h : AH} : jmp G J (afw L_X6_areSo [4] 28) 28 S lv st h = G L_X6_areSo_28 S lv st h := nr rfl
theorem j_X6_areSo_34 {G : List Item → SpS → List Value → List Value → AH → Prop} {J : Nat → SpS → List Value → List Value → AH → Prop} {S : SpS} {lv st : List Value} {h : AH} : jmp G J (afw L_X6_areSo [4] 34) 34 S lv st h = G L_X6_areSo_34 S lv st h := nr rfl
theorem j_X6_areSo_4 {G : List Item → SpS → List Value → List Value → AH → Prop} {J : Nat → SpS → List Value → List Value → AH → Prop} {S : SpS} {lv st : List Value} {h : AH} : jmp G J (afw L_X6_areSo [4] 4) 4 S lv st h = J 4 S lv st h := nr rfl
theorem e_X6_areSo {x : Addr} {w : Int32} {h : AH} {K2 : Option Value → SpS → AH → Prop} : S_X6_areSo SH0 [.ref x, .int w] h K2 = (fun (K : Option Value → AH → Prop) => x = 64 ∧ okE (estM h) ∧ K (some (.int (soE (estM h) w))) h) (fun v h' => K2 v SH0 h') := (lift_e P_X6_areSo [.ref x, .int w] h K2).trans (nr rfl)
set_option maxRecDepth 100000 in
set_option maxHeartbeats 4000000 in
theorem c_X6_areSo (l : Launch) : Ct l yX6_areSo cX6_areSo 4 (some .int) 1 0 0 S_X6_areSo := by
  refine Ct0_mk L_X6_areSo [4] (by decide +kernel) (by decide) ok_X6_areSo (lk_X6_areSo l) ?_
  intro as h K hP
  match as, hP with
  | [.ref x, .int w], ⟨hx, ho, hK⟩ =>
  refine ⟨by simp [slotsN, Value.category], fun J hJ => ?_⟩
  subst hx
  have hc := em_c ho
  obtain ⟨-, hn, -⟩ := ho
  have hF := fun i k => em_f (h := h) (i := i) (k := k)
  generalize hE : estM h = E at *
  refine hJ 0 _ _ _ _ ?_
  simp only [z_X6_areSo_0, u_X6_areSo_0, u_X6_areSo_4, u_X6_areSo_28, u_X6_areSo_34, j_X6_areSo_4, j_X6_areSo_28, j_X6_areSo_34, ev_iconst, ev_istore_n2, ev_istore_n3, ev_nop, ev_iload_n3, ev_aload_n0, ev_getfI, ev_ic_ge, ev_getfR, ev_iaload, ev_iload_n1, ev_ic_ne, ev_iload_n2, ev_ishl, ev_ior, ev_iinc3, ev_goto, ev_iret, ro_i, ro_z, vq3_0, vq3_1, vq3_2, cq_0, cq_1, cq_2, capO_z, kb_6, kb_7, kb_8, kb_9, kb_10, kb_12, kb_16, kb_20, kb_21, kb_30, kb_32, kb_40, kb_48, kb_50, kb_57, kb_59, kb_60, kb_63, kb_70, kb_78, kb_81, kb_82, kb_84, kb_97, kb_99, kb_100, kb_101, kb_119, kb_120, kb_122, ki_m1, ki_0, ki_1, ki_2, ki_3, ki_4, ki_5, ki_6, ki_7, ki_8, ki_9, ki_10, ki_11, ki_12, ki_13, ki_14, ki_15, ki_16, ki_17, ki_18, ki_19, ki_20, ki_21, ki_22, ki_23, ki_24, ki_25, ki_26, ki_27, ki_28, ki_29, ki_30, ki_31, ki_32, ki_33, ki_34, ki_35, ki_36, ki_37, ki_38, ki_39, ki_40, ki_41, ki_42, ki_43, ki_44, ki_45, ki_46, ki_47, ki_48, ki_49, ki_50, ki_51, ki_52, ki_53, ki_54, ki_55, ki_56, ki_57, ki_58, ki_59, ki_60, ki_61, ki_62, ki_63, ks_m2000, ks_m1006, ks_m1005, ks_m1004, ks_m1003, ks_m1002, ks_m1000, ks_200, ks_250, ks_255, ks_256, ks_320, ks_660, ks_999, ks_1000, ks_9999, ks_12345, ne_2, ne_10, t_0, t_40, t_41, t_42, t_43, t_44, t_45, t_46, t_47, t_64, t_65, t_66, t_67, t_68, t_69, t_70, t_71, t_72, t_73, t_74, t_75, t_76, t_77, t_78, t_79, t_80, t_81, t_82, r_0_0, r_0_1, r_0_2, r_0_4, r_0_5, r_0_6, r_0_7, r_40_0, r_40_5, r_44_0, r_44_1, r_64_0, r_64_1, r_64_3, r_64_4, r_64_5, r_64_6, r_64_7, r_64_8, r_64_9, r_64_12, r_64_17, r_64_18, r_64_19, r_64_20, r_64_22, r_64_23, r_64_24, r_64_25, t_1, t_14, t_27, t_2, t_15, t_28, Nat.reduceEqDiff, ne_eq, not_false_eq_true, false_implies, true_implies, implies_true, Nat.reduceAdd, Nat.reduceLeDiff, Nat.reduceLT, Nat.reduceMul, or_true, true_or, if_true, if_false, not_true_eq_false, and_self, bF, Nat.reduceBEq, Bool.false_and, Bool.and_false, Bool.or_self, Bool.or_false, Bool.false_or, Bool.false_eq_true, Int.reduceAdd, Bool.and_self, Bool.true_and, Bool.and_true, beq_self_eq_true, not_not_, i10_, i01_, List.length_nil, List.length_cons, true_and, and_true, false_and, and_false, kl_i, kl_a, kl_n, kl_l, tl_s, tl_n, rv_S, pd_0, pd_e, pd_r, pd_i, pd_l]
  refine dn (P := fun i => J 4 SH0 [.ref 64, .int w, .int (soS E w i), .int (nI i)] [] h) (cnt E) ?_ (fun i hi ih => ?_)
  · refine hJ 4 _ _ _ _ ?_
    simp only [z_X6_areSo_4, u_X6_areSo_0, u_X6_areSo_4, u_X6_areSo_28, u_X6_areSo_34, j_X6_areSo_4, j_X6_areSo_28, j_X6_areSo_34, ev_iconst, ev_istore_n2, ev_istore_n3, ev_nop, ev_iload_n3, ev_aload_n0, ev_getfI, ev_ic_ge, ev_getfR, ev_iaload, ev_iload_n1, ev_ic_ne, ev_iload_n2, ev_ishl, ev_ior, ev_iinc3, ev_goto, ev_iret, ro_i, ro_z, vq3_0, vq3_1, vq3_2, cq_0, cq_1, cq_2, capO_z, kb_6, kb_7, kb_8, kb_9, kb_10, kb_12, kb_16, kb_20, kb_21, kb_30, kb_32, kb_40, kb_48, kb_50, kb_57, kb_59, kb_60, kb_63, kb_70, kb_78, kb_81, kb_82, kb_84, kb_97, kb_99, kb_100, kb_101, kb_119, kb_120, kb_122, ki_m1, ki_0, ki_1, ki_2, ki_3, ki_4, ki_5, ki_6, ki_7, ki_8, ki_9, ki_10, ki_11, ki_12, ki_13, ki_14, ki_15, ki_16, ki_17, ki_18, ki_19, ki_20, ki_21, ki_22, ki_23, ki_24, ki_25, ki_26, ki_27, ki_28, ki_29, ki_30, ki_31, ki_32, ki_33, ki_34, ki_35, ki_36, ki_37, ki_38, ki_39, ki_40, ki_41, ki_42, ki_43, ki_44, ki_45, ki_46, ki_47, ki_48, ki_49, ki_50, ki_51, ki_52, ki_53, ki_54, ki_55, ki_56, ki_57, ki_58, ki_59, ki_60, ki_61, ki_62, ki_63, ks_m2000, ks_m1006, ks_m1005, ks_m1004, ks_m1003, ks_m1002, ks_m1000, ks_200, ks_250, ks_255, ks_256, ks_320, ks_660, ks_999, ks_1000, ks_9999, ks_12345, ne_2, ne_10, t_0, t_40, t_41, t_42, t_43, t_44, t_45, t_46, t_47, t_64, t_65, t_66, t_67, t_68, t_69, t_70, t_71, t_72, t_73, t_74, t_75, t_76, t_77, t_78, t_79, t_80, t_81, t_82, r_0_0, r_0_1, r_0_2, r_0_4, r_0_5, r_0_6, r_0_7, r_40_0, r_40_5, r_44_0, r_44_1, r_64_0, r_64_1, r_64_3, r_64_4, r_64_5, r_64_6, r_64_7, r_64_8, r_64_9, r_64_12, r_64_17, r_64_18, r_64_19, r_64_20, r_64_22, r_64_23, r_64_24, r_64_25, t_1, t_14, t_27, t_2, t_15, t_28, Nat.reduceEqDiff, ne_eq, not_false_eq_true, false_implies, true_implies, implies_true, Nat.reduceAdd, Nat.reduceLeDiff, Nat.reduceLT, Nat.reduceMul, or_true, true_or, if_true, if_false, not_true_eq_false, and_self, bF, Nat.reduceBEq, Bool.false_and, Bool.and_false, Bool.or_self, Bool.or_false, Bool.false_or, Bool.false_eq_true, Int.reduceAdd, Bool.and_self, Bool.true_and, Bool.and_true, beq_self_eq_true, not_not_, i10_, i01_, List.length_nil, List.length_cons, true_and, and_true, false_and, and_false, kl_i, kl_a, kl_n, kl_l, tl_s, tl_n, rv_S, pd_0, pd_e, pd_r, pd_i, pd_l, hc, lpT10 hn]
    exact hK
  · have hi10 : i < 10 := by omega
    have hg : eF E i 6 = gI h 73 i := hF i 6 hi (by omega)
    refine hJ 4 _ _ _ _ ?_
    simp only [z_X6_areSo_4, u_X6_areSo_0, u_X6_areSo_4, u_X6_areSo_28, u_X6_areSo_34, j_X6_areSo_4, j_X6_areSo_28, j_X6_areSo_34, ev_iconst, ev_istore_n2, ev_istore_n3, ev_nop, ev_iload_n3, ev_aload_n0, ev_getfI, ev_ic_ge, ev_getfR, ev_iaload, ev_iload_n1, ev_ic_ne, ev_iload_n2, ev_ishl, ev_ior, ev_iinc3, ev_goto, ev_iret, ro_i, ro_z, vq3_0, vq3_1, vq3_2, cq_0, cq_1, cq_2, capO_z, kb_6, kb_7, kb_8, kb_9, kb_10, kb_12, kb_16, kb_20, kb_21, kb_30, kb_32, kb_40, kb_48, kb_50, kb_57, kb_59, kb_60, kb_63, kb_70, kb_78, kb_81, kb_82, kb_84, kb_97, kb_99, kb_100, kb_101, kb_119, kb_120, kb_122, ki_m1, ki_0, ki_1, ki_2, ki_3, ki_4, ki_5, ki_6, ki_7, ki_8, ki_9, ki_10, ki_11, ki_12, ki_13, ki_14, ki_15, ki_16, ki_17, ki_18, ki_19, ki_20, ki_21, ki_22, ki_23, ki_24, ki_25, ki_26, ki_27, ki_28, ki_29, ki_30, ki_31, ki_32, ki_33, ki_34, ki_35, ki_36, ki_37, ki_38, ki_39, ki_40, ki_41, ki_42, ki_43, ki_44, ki_45, ki_46, ki_47, ki_48, ki_49, ki_50, ki_51, ki_52, ki_53, ki_54, ki_55, ki_56, ki_57, ki_58, ki_59, ki_60, ki_61, ki_62, ki_63, ks_m2000, ks_m1006, ks_m1005, ks_m1004, ks_m1003, ks_m1002, ks_m1000, ks_200, ks_250, ks_255, ks_256, ks_320, ks_660, ks_999, ks_1000, ks_9999, ks_12345, ne_2, ne_10, t_0, t_40, t_41, t_42, t_43, t_44, t_45, t_46, t_47, t_64, t_65, t_66, t_67, t_68, t_69, t_70, t_71, t_72, t_73, t_74, t_75, t_76, t_77, t_78, t_79, t_80, t_81, t_82, r_0_0, r_0_1, r_0_2, r_0_4, r_0_5, r_0_6, r_0_7, r_40_0, r_40_5, r_44_0, r_44_1, r_64_0, r_64_1, r_64_3, r_64_4, r_64_5, r_64_6, r_64_7, r_64_8, r_64_9, r_64_12, r_64_17, r_64_18, r_64_19, r_64_20, r_64_22, r_64_23, r_64_24, r_64_25, t_1, t_14, t_27, t_2, t_15, t_28, Nat.reduceEqDiff, ne_eq, not_false_eq_true, false_implies, true_implies, implies_true, Nat.reduceAdd, Nat.reduceLeDiff, Nat.reduceLT, Nat.reduceMul, or_true, true_or, if_true, if_false, not_true_eq_false, and_self, bF, Nat.reduceBEq, Bool.false_and, Bool.and_false, Bool.or_self, Bool.or_false, Bool.false_or, Bool.false_eq_true, Int.reduceAdd, Bool.and_self, Bool.true_and, Bool.and_true, beq_self_eq_true, not_not_, i10_, i01_, List.length_nil, List.length_cons, true_and, and_true, false_and, and_false, kl_i, kl_a, kl_n, kl_l, tl_s, tl_n, rv_S, pd_0, pd_e, pd_r, pd_i, pd_l, hc, lpF10 hi hn, vp10 hi10, nI_10 hi10, nI_1, ← hg]
    rw [soS_s] at ih
    grind
/-- how many bits are set in a small number -/
def pcN (n : Nat) : Nat := n % 2 + n / 2 % 2 + n / 4 % 2 + n / 8 % 2 + n / 16 % 2 + n / 32 % 2 + n / 64 % 2 + n / 128 % 2 + n / 256 % 2 + n / 512 % 2
theorem pop_ok : ∀ n, n < 1024 → popI (nI n) = nI (pcN n) := by decide +kernel
theorem bit_ok : ∀ m, m < 10 → ∀ n, n < 512 → n < 2 ^ m → nI n ||| ((1 : Int32) <<< (nI m &&& 31)) = nI (n + 2 ^ m) ∧ pcN (n + 2 ^ m) = pcN n + 1 := by decide +kernel
theorem so_b (E : ES) (w : Int32) : ∀ m, m ≤ 10 → ∃ n, n < 2 ^ m ∧ soS E w m = nI n ∧ forN m (fun i a => if eF E i 6 = w then a + 1 else a) (0 : Int32) = nI (pcN n)
  | 0, _ => ⟨0, by decide, rfl, rfl⟩
  | m + 1, hm => by
    obtain ⟨n, h1, h2, h3⟩ := so_b E w m (by omega)
    have h5 : 2 ^ m ≤ 512 := Nat.le_trans (Nat.pow_le_pow_right (by omega) (show m ≤ 9 by omega)) (by decide)
    obtain ⟨b1, b2⟩ := bit_ok m (by omega) n (by omega) h1
    rw [soS_s, forN_s, h2, h3, Nat.pow_succ]
    by_cases q : eF E m 6 = w
    · rw [if_pos q, if_pos q, b1]
      exact ⟨n + 2 ^ m, by omega, rfl, by rw [b2]; exact nI_1 _⟩
    · rw [if_neg q, if_neg q]
      exact ⟨n, by omega, rfl, rfl⟩
theorem pop_so {E : ES} (w : Int32) (hn : cnt E ≤ 10) : popI (soE E w) = areN E w := by
  obtain ⟨n, h1, h2, h3⟩ := so_b E w (cnt E) hn
  have h5 : 2 ^ cnt E ≤ 1024 := Nat.le_trans (Nat.pow_le_pow_right (by omega) hn) (by decide)
  unfold soE
  rw [h2, pop_ok n (by omega)]
  exact h3.symm
theorem are_pos (E : ES) (w : Int32) {i : Nat} (h6 : eF E i 6 = w) : ∀ n, i < n → n ≤ 10 → ∃ m, 1 ≤ m ∧ m ≤ n ∧ forN n (fun i a => if eF E i 6 = w then a + 1 else a) (0 : Int32) = nI m
  | 0, hi, _ => absurd hi (Nat.not_lt_zero i)
  | n + 1, hi, hn => by
    rw [forN_s]
    by_cases z : i = n
    · subst z
      obtain ⟨m, h1, h2⟩ := areN_b E w i
      rw [if_pos h6, h2]
      exact ⟨m + 1, by omega, by omega, nI_1 m⟩
    · obtain ⟨m, h1, h2, h3⟩ := are_pos E w h6 n (by omega) (by omega)
      rw [h3]
      by_cases q : eF E n 6 = w
      · rw [if_pos q]; exact ⟨m + 1, by omega, by omega, nI_1 m⟩
      · rw [if_neg q]; exact ⟨m, h1, by omega, rfl⟩
theorem are_0 {E : ES} {i : Nat} (ho : okE E) (hi : i < cnt E) (h6 : eF E i 6 = 0) : 0 < areN E 0 := by
  obtain ⟨m, h1, h2, h3⟩ := are_pos E 0 h6 (cnt E) hi ho.2.1
  have e : areN E 0 = nI m := h3
  have := ho.2.1
  rw [e, lt_ti, ti_0, nI_toInt (by omega)]
  omega
def P_X6_getsNow : Sp0T := fun as h K => match as with
  | [.ref x] => x = 64 ∧ okE (estM h) ∧ 0 < areN (estM h) 0 ∧ K (some (.int (portE (estM h)))) h
  | _ => False
def S_X6_getsNow : SpT := lift P_X6_getsNow
def L_X6_getsNow_50 : List Item := (50, .istore_n 1, [], nS) :: (51, .aload_n 0, [], nS) :: (52, .getfield 7, [6, 0, 1], nS) :: (55, .iconst 0, [], nS) :: (56, .iaload, [], nS) :: (57, .iload_n 1, [], nS) :: (58, .invokestatic 193, [1], nS) :: (61, .ireturn, [], nS) :: []
def L_X6_getsNow_39 : List Item := (39, .aload_n 0, [], nS) :: (40, .getfield 7, [6, 0, 1], nS) :: (43, .iconst 0, [], nS) :: (44, .iaload, [], nS) :: (45, .aload_n 0, [], nS) :: (46, .invokevirtual 190, [0, 6, 0, 0], S_X6_young) :: (49, .idiv, [], nS) :: L_X6_getsNow_50
def L_X6_getsNow_14 : List Item := (14, .aload_n 0, [], nS) :: (15, .getfield 7, [6, 0, 1], nS) :: (18, .iconst 2, [], nS) :: (19, .iaload, [], nS) :: (20, .iconst 1, [], nS) :: (21, .if_icmp .ne 18, [39], nS) :: (24, .aload_n 0, [], nS) :: (25, .getfield 7, [6, 0, 1], nS) :: (28, .iconst 0, [], nS) :: (29, .iaload, [], nS) :: (30, .bipush 9, [], nS) :: (32, .iadd, [], nS) :: (33, .bipush 10, [], nS) :: (35, .idiv, [], nS) :: (36, .goto 14, [50], nS) :: L_X6_getsNow_39
def L_X6_getsNow_0 : List Item := (0, .aload_n 0, [], nS) :: (1, .getfield 7, [6, 0, 1], nS) :: (4, .iconst 2, [], nS) :: (5, .iaload, [], nS) :: (6, .ifCond .ne 8, [14], nS) :: (9, .bipush 60, [], nS) :: (11, .goto 39, [50], nS) :: L_X6_getsNow_14
def L_X6_getsNow : List Item := L_X6_getsNow_0
theorem ok_X6_getsNow : okB cX6_getsNow L_X6_getsNow = true := by decide +kernel
theorem lk_X6_getsNow (l : Launch) : LKs l RX6 2 false L_X6_getsNow := ⟨trivial, ⟨_, _, _, rfl, ⟨(RX6, TX6, 26), rfl, by decide, gT_of (List.mem_of_getElem? (i := 918) (by decide +kernel)) rfl⟩, rfl⟩, trivial, trivial, trivial, trivial, trivial, trivial, ⟨_, _, _, rfl, ⟨(RX6, TX6, 26), rfl, by decide, gT_of (List.mem_of_getElem? (i := 918) (by decide +kernel)) rfl⟩, rfl⟩, trivial, trivial, trivial, trivial, trivial, ⟨_, _, _, rfl, ⟨(RX6, TX6, 26), rfl, by decide, gT_of (List.mem_of_getElem? (i := 918) (by decide +kernel)) rfl⟩, rfl⟩, trivial, trivial, trivial, trivial, trivial, trivial, trivial, trivial, ⟨_, _, _, rfl, ⟨(RX6, TX6, 26), rfl, by decide, gT_of (List.mem_of_getElem? (i := 918) (by decide +kernel)) rfl⟩, rfl⟩, trivial, trivial, trivial, ⟨_, _, _, _, _, _, _, _, _, rfl, c_X6_young l, Or.inl ⟨by decide, yv_X6_young⟩, by decide, gT_of (List.mem_of_getElem? (i := 1165) (by decide +kernel)) rfl⟩, trivial, trivial, trivial, ⟨_, _, _, rfl, ⟨(RX6, TX6, 26), rfl, by decide, gT_of (List.mem_of_getElem? (i := 918) (by decide +kernel)) rfl⟩, rfl⟩, trivial, trivial, trivial, Or.inr (Or.inl ⟨rfl, gT_of (List.mem_of_getElem? (i := 1061) (by decide +kernel)) rfl⟩), trivial, trivial⟩
theorem b_X6_getsNow_0 : atL L_X6_getsNow 0 = L_X6_getsNow_0 := rfl
theorem b_X6_getsNow_14 : atL L_X6_getsNow 14 = L_X6_getsNow_14 := rfl
theorem b_X6_getsNow_39 : atL L_X6_getsNow 39 = L_X6_getsNow_39 := rfl
theorem b_X6_getsNow_50 : atL L_X6_getsNow 50 = L_X6_getsNow_50 := rfl
theorem a_X6_getsNow_14 : afw L_X6_getsNow [] 14 = L_X6_getsNow_14 := rfl
theorem a_X6_getsNow_39 : afw L_X6_getsNow [] 39 = L_X6_getsNow_39 := rfl
theorem a_X6_getsNow_50 : afw L_X6_getsNow [] 50 = L_X6_getsNow_50 := rfl
theorem yv_X6_getsNow : YV yX6_getsNow cX6_getsNow 2 (some .int) 0 6 := ⟨⟨gT_of (List.mem_of_getElem? (i := 1164) (by decide +kernel)) rfl, gT_of (List.mem_of_getElem? (i := 74) (by decide +kernel)) rfl, ⟨by decide, by decide⟩, by decide +kernel, by decide⟩, gT_of (List.mem_of_getElem? (i := 1163) (by decide +kernel)) rfl, gT_of (List.mem_of_getElem? (i := 42) (by decide +kernel)) rfl, rfl⟩
theorem u_X6_getsNow_0 : L_X6_getsNow_0 = (0, .aload_n 0, [], nS) :: (1, .getfield 7, [6, 0, 1], nS) :: (4, .iconst 2, [], nS) :: (5, .iaload, [], nS) :: (6, .ifCond .ne 8, [14], nS) :: (9, .bipush 60, [], nS) :: (11, .goto 39, [50], nS) :: L_X6_getsNow_14 := nr rfl
theorem u_X6_getsNow_14 : L_X6_getsNow_14 = (14, .aload_n 0, [], nS) :: (15, .getfield 7, [6, 0, 1], nS) :: (18, .iconst 2, [], nS) :: (19, .iaload, [], nS) :: (20, .iconst 1, [], nS) :: (21, .if_icmp .ne 18, [39], nS) :: (24, .aload_n 0, [], nS) :: (25, .getfield 7, [6, 0, 1], nS) :: (28, .iconst 0, [], nS) :: (29, .iaload, [], nS) :: (30, .bipush 9, [], nS) :: (32, .iadd, [], nS) :: (33, .bipush 10, [], nS) :: (35, .idiv, [], nS) :: (36, .goto 14, [50], nS) :: L_X6_getsNow_39 := nr rfl
theorem u_X6_getsNow_39 : L_X6_getsNow_39 = (39, .aload_n 0, [], nS) :: (40, .getfield 7, [6, 0, 1], nS) :: (43, .iconst 0, [], nS) :: (44, .iaload, [], nS) :: (45, .aload_n 0, [], nS) :: (46, .invokevirtual 190, [0, 6, 0, 0], S_X6_young) :: (49, .idiv, [], nS) :: L_X6_getsNow_50 := nr rfl
theorem u_X6_getsNow_50 : L_X6_getsNow_50 = (50, .istore_n 1, [], nS) :: (51, .aload_n 0, [], nS) :: (52, .getfield 7, [6, 0, 1], nS) :: (55, .iconst 0, [], nS) :: (56, .iaload, [], nS) :: (57, .iload_n 1, [], nS) :: (58, .invokestatic 193, [1], nS) :: (61, .ireturn, [], nS) :: [] := nr rfl
theorem z_X6_getsNow_0 : atL L_X6_getsNow 0 = L_X6_getsNow_0 := nr rfl
theorem z_X6_getsNow_14 : atL L_X6_getsNow 14 = L_X6_getsNow_14 := nr rfl
theorem z_X6_getsNow_39 : atL L_X6_getsNow 39 = L_X6_getsNow_39 := nr rfl
theorem z_X6_getsNow_50 : atL L_X6_getsNow 50 = L_X6_getsNow_50 := nr rfl
theorem j_X6_getsNow_14 {G : List Item → SpS → List Value → List Value → AH → Prop} {J : Nat → SpS → List Value → List Value → AH → Prop} {S : SpS} {lv st : List Value} {h : AH} : jmp G J (afw L_X6_getsNow [] 14) 14 S lv st h = G L_X6_getsNow_14 S lv st h := nr rfl
theorem j_X6_getsNow_39 {G : List Item → SpS → List Value → List Value → AH → Prop} {J : Nat → SpS → List Value → List Value → AH → Prop} {S : SpS} {lv st : List Value} {h : AH} : jmp G J (afw L_X6_getsNow [] 39) 39 S lv st h = G L_X6_getsNow_39 S lv st h := nr rfl
theorem j_X6_getsNow_50 {G : List Item → SpS → List Value → List Value → AH → Prop} {J : Nat → SpS → List Value → List Value → AH → Prop} {S : SpS} {lv st : List Value} {h : AH} : jmp G J (afw L_X6_getsNow [] 50) 50 S lv st h = G L_X6_getsNow_50 S lv st h := nr rfl
theorem e_X6_getsNow {x : Addr} {h : AH} {K2 : Option Value → SpS → AH → Prop} : S_X6_getsNow SH0 [.ref x] h K2 = (fun (K : Option Value → AH → Prop) => x = 64 ∧ okE (estM h) ∧ 0 < areN (estM h) 0 ∧ K (some (.int (portE (estM h)))) h) (fun v h' => K2 v SH0 h') := (lift_e P_X6_getsNow [.ref x] h K2).trans (nr rfl)
set_option maxRecDepth 100000 in
set_option maxHeartbeats 4000000 in
theorem c_X6_getsNow (l : Launch) : Ct l yX6_getsNow cX6_getsNow 2 (some .int) 2 0 0 S_X6_getsNow := by
  refine Ct0_mk L_X6_getsNow [] (by decide +kernel) (by decide) ok_X6_getsNow (lk_X6_getsNow l) ?_
  intro as h K hP
  match as, hP with
  | [.ref x], ⟨hx, ho, hp, hK⟩ =>
  refine ⟨by simp [slotsN, Value.category], fun J hJ => ?_⟩
  subst hx
  have e0 : gI h 65 0 = eS (estM h) 0 := (em_s (by omega)).symm
  have e2 : gI h 65 2 = eS (estM h) 2 := (em_s (by omega)).symm
  have hp0 : (areN (estM h) 0 = 0) = False := eq_false (fun z => by rw [z] at hp; exact absurd hp (by decide))
  have ok : (okE (estM h)) = True := eq_true ho
  unfold portE dueE tenU at hK
  rw [if_pos hp] at hK
  rw [← min_c] at hK
  refine hJ 0 _ _ _ _ ?_
  simp only [z_X6_getsNow_0, u_X6_getsNow_0, u_X6_getsNow_14, u_X6_getsNow_39, u_X6_getsNow_50, j_X6_getsNow_14, j_X6_getsNow_39, j_X6_getsNow_50, ev_aload_n0, ev_getfR, ev_iconst, ev_iaload, ev_if_ne, ev_bipush, ev_goto, ev_ic_ne, ev_iadd, ev_idiv, ev_callV0, ev_istore_n1, ev_iload_n1, ev_min, ev_iret, ro_i, ro_z, ↓e_X6_young, vq3_0, vq3_1, vq3_2, cq_0, cq_1, cq_2, capO_z, kb_6, kb_7, kb_8, kb_9, kb_10, kb_12, kb_16, kb_20, kb_21, kb_30, kb_32, kb_40, kb_48, kb_50, kb_57, kb_59, kb_60, kb_63, kb_70, kb_78, kb_81, kb_82, kb_84, kb_97, kb_99, kb_100, kb_101, kb_119, kb_120, kb_122, ki_m1, ki_0, ki_1, ki_2, ki_3, ki_4, ki_5, ki_6, ki_7, ki_8, ki_9, ki_10, ki_11, ki_12, ki_13, ki_14, ki_15, ki_16, ki_17, ki_18, ki_19, ki_20, ki_21, ki_22, ki_23, ki_24, ki_25, ki_26, ki_27, ki_28, ki_29, ki_30, ki_31, ki_32, ki_33, ki_34, ki_35, ki_36, ki_37, ki_38, ki_39, ki_40, ki_41, ki_42, ki_43, ki_44, ki_45, ki_46, ki_47, ki_48, ki_49, ki_50, ki_51, ki_52, ki_53, ki_54, ki_55, ki_56, ki_57, ki_58, ki_59, ki_60, ki_61, ki_62, ki_63, ks_m2000, ks_m1006, ks_m1005, ks_m1004, ks_m1003, ks_m1002, ks_m1000, ks_200, ks_250, ks_255, ks_256, ks_320, ks_660, ks_999, ks_1000, ks_9999, ks_12345, ne_2, ne_10, t_0, t_40, t_41, t_42, t_43, t_44, t_45, t_46, t_47, t_64, t_65, t_66, t_67, t_68, t_69, t_70, t_71, t_72, t_73, t_74, t_75, t_76, t_77, t_78, t_79, t_80, t_81, t_82, r_0_0, r_0_1, r_0_2, r_0_4, r_0_5, r_0_6, r_0_7, r_40_0, r_40_5, r_44_0, r_44_1, r_64_0, r_64_1, r_64_3, r_64_4, r_64_5, r_64_6, r_64_7, r_64_8, r_64_9, r_64_12, r_64_17, r_64_18, r_64_19, r_64_20, r_64_22, r_64_23, r_64_24, r_64_25, t_1, t_14, t_27, t_2, t_15, t_28, Nat.reduceEqDiff, ne_eq, not_false_eq_true, false_implies, true_implies, implies_true, Nat.reduceAdd, Nat.reduceLeDiff, Nat.reduceLT, Nat.reduceMul, or_true, true_or, if_true, if_false, not_true_eq_false, and_self, bF, Nat.reduceBEq, Bool.false_and, Bool.and_false, Bool.or_self, Bool.or_false, Bool.false_or, Bool.false_eq_true, Int.reduceAdd, Bool.and_self, Bool.true_and, Bool.and_true, beq_self_eq_true, not_not_, i10_, i01_, List.length_nil, List.length_cons, true_and, and_true, false_and, and_false, kl_i, kl_a, kl_n, kl_l, tl_s, tl_n, rv_S, pd_0, pd_e, pd_r, pd_i, pd_l, e0, e2, ok, hp0]
  rcases ho.2.2 with q | q | q
  all_goals
    rw [q] at hK ⊢
    simp +decide only [not_true, not_false_eq_true, if_true, if_false, false_implies, true_implies, and_true, true_and] at hK ⊢
    exact hK
def P_X6_wouldUse : Sp0T := fun as h K => match as with
  | [.ref x, .int v, .int n] => x = 64 ∧ ∃ i : Nat, i < cnt (estM h) ∧ i < 10 ∧ v = nI i ∧ K (some (.int (wish (eF (estM h) i 0) (eF (estM h) i 1) n (eS (estM h) 1)))) h
  | _ => False
def S_X6_wouldUse : SpT := lift P_X6_wouldUse
def L_X6_wouldUse_98 : List Item := (98, .iload_n 2, [], nS) :: (99, .bipush 9, [], nS) :: (101, .iadd, [], nS) :: (102, .bipush 10, [], nS) :: (104, .idiv, [], nS) :: (105, .ireturn, [], nS) :: []
def L_X6_wouldUse_88 : List Item := (88, .iload_n 2, [], nS) :: (89, .bipush 9, [], nS) :: (91, .iadd, [], nS) :: (92, .bipush 10, [], nS) :: (94, .idiv, [], nS) :: (95, .iconst 1, [], nS) :: (96, .iadd, [], nS) :: (97, .ireturn, [], nS) :: L_X6_wouldUse_98
def L_X6_wouldUse_87 : List Item := (87, .ireturn, [], nS) :: L_X6_wouldUse_88
def L_X6_wouldUse_86 : List Item := (86, .iconst 0, [], nS) :: L_X6_wouldUse_87
def L_X6_wouldUse_66 : List Item := (66, .aload_n 0, [], nS) :: (67, .getfield 7, [6, 0, 1], nS) :: (70, .iconst 1, [], nS) :: (71, .iaload, [], nS) :: (72, .iconst 2, [], nS) :: (73, .irem, [], nS) :: (74, .ifCond .ne 12, [86], nS) :: (77, .aload_n 0, [], nS) :: (78, .getfield 19, [6, 4, 1], nS) :: (81, .iload_n 1, [], nS) :: (82, .iaload, [], nS) :: (83, .goto 4, [87], nS) :: L_X6_wouldUse_86
def L_X6_wouldUse_53 : List Item := (53, .iload_n 2, [], nS) :: (54, .iconst 1, [], nS) :: (55, .iadd, [], nS) :: (56, .iconst 2, [], nS) :: (57, .idiv, [], nS) :: (58, .aload_n 0, [], nS) :: (59, .getfield 19, [6, 4, 1], nS) :: (62, .iload_n 1, [], nS) :: (63, .iaload, [], nS) :: (64, .iadd, [], nS) :: (65, .ireturn, [], nS) :: L_X6_wouldUse_66
def L_X6_wouldUse_46 : List Item := (46, .aload_n 0, [], nS) :: (47, .getfield 19, [6, 4, 1], nS) :: (50, .iload_n 1, [], nS) :: (51, .iaload, [], nS) :: (52, .ireturn, [], nS) :: L_X6_wouldUse_53
def L_X6_wouldUse_40 : List Item := (40, .iload_n 2, [], nS) :: (41, .iconst 1, [], nS) :: (42, .iadd, [], nS) :: (43, .iconst 2, [], nS) :: (44, .idiv, [], nS) :: (45, .ireturn, [], nS) :: L_X6_wouldUse_46
def L_X6_wouldUse_0 : List Item := (0, .aload_n 0, [], nS) :: (1, .getfield 16, [6, 3, 1], nS) :: (4, .iload_n 1, [], nS) :: (5, .iaload, [], nS) :: (6, .tableswitch 92 1 5 #[34, 40, 47, 60, 82], [40, 46, 53, 66, 88, 98], nS) :: L_X6_wouldUse_40
def L_X6_wouldUse : List Item := L_X6_wouldUse_0
theorem ok_X6_wouldUse : okB cX6_wouldUse L_X6_wouldUse = true := by decide +kernel
theorem lk_X6_wouldUse (l : Launch) : LKs l RX6 1 false L_X6_wouldUse := ⟨trivial, ⟨_, _, _, rfl, ⟨(RX6, TX6, 26), rfl, by decide, gT_of (List.mem_of_getElem? (i := 921) (by decide +kernel)) rfl⟩, rfl⟩, trivial, trivial, trivial, trivial, trivial, trivial, trivial, trivial, trivial, trivial, ⟨_, _, _, rfl, ⟨(RX6, TX6, 26), rfl, by decide, gT_of (List.mem_of_getElem? (i := 922) (by decide +kernel)) rfl⟩, rfl⟩, trivial, trivial, trivial, trivial, trivial, trivial, trivial, trivial, trivial, ⟨_, _, _, rfl, ⟨(RX6, TX6, 26), rfl, by decide, gT_of (List.mem_of_getElem? (i := 922) (by decide +kernel)) rfl⟩, rfl⟩, trivial, trivial, trivial, trivial, trivial, ⟨_, _, _, rfl, ⟨(RX6, TX6, 26), rfl, by decide, gT_of (List.mem_of_getElem? (i := 918) (by decide +kernel)) rfl⟩, rfl⟩, trivial, trivial, trivial, trivial, trivial, trivial, ⟨_, _, _, rfl, ⟨(RX6, TX6, 26), rfl, by decide, gT_of (List.mem_of_getElem? (i := 922) (by decide +kernel)) rfl⟩, rfl⟩, trivial, trivial, trivial, trivial, trivial, trivial, trivial, trivial, trivial, trivial, trivial, trivial, trivial, trivial, trivial, trivial, trivial, trivial, trivial, trivial⟩
theorem b_X6_wouldUse_0 : atL L_X6_wouldUse 0 = L_X6_wouldUse_0 := rfl
theorem b_X6_wouldUse_40 : atL L_X6_wouldUse 40 = L_X6_wouldUse_40 := rfl
theorem b_X6_wouldUse_46 : atL L_X6_wouldUse 46 = L_X6_wouldUse_46 := rfl
theorem b_X6_wouldUse_53 : atL L_X6_wouldUse 53 = L_X6_wouldUse_53 := rfl
theorem b_X6_wouldUse_66 : atL L_X6_wouldUse 66 = L_X6_wouldUse_66 := rfl
theorem b_X6_wouldUse_86 : atL L_X6_wouldUse 86 = L_X6_wouldUse_86 := rfl
theorem b_X6_wouldUse_87 : atL L_X6_wouldUse 87 = L_X6_wouldUse_87 := rfl
theorem b_X6_wouldUse_88 : atL L_X6_wouldUse 88 = L_X6_wouldUse_88 := rfl
theorem b_X6_wouldUse_98 : atL L_X6_wouldUse 98 = L_X6_wouldUse_98 := rfl
theorem a_X6_wouldUse_40 : afw L_X6_wouldUse [] 40 = L_X6_wouldUse_40 := rfl
theorem a_X6_wouldUse_46 : afw L_X6_wouldUse [] 46 = L_X6_wouldUse_46 := rfl
theorem a_X6_wouldUse_53 : afw L_X6_wouldUse [] 53 = L_X6_wouldUse_53 := rfl
theorem a_X6_wouldUse_66 : afw L_X6_wouldUse [] 66 = L_X6_wouldUse_66 := rfl
theorem a_X6_wouldUse_86 : afw L_X6_wouldUse [] 86 = L_X6_wouldUse_86 := rfl
theorem a_X6_wouldUse_87 : afw L_X6_wouldUse [] 87 = L_X6_wouldUse_87 := rfl
theorem a_X6_wouldUse_88 : afw L_X6_wouldUse [] 88 = L_X6_wouldUse_88 := rfl
theorem a_X6_wouldUse_98 : afw L_X6_wouldUse [] 98 = L_X6_wouldUse_98 := rfl
theorem yv_X6_wouldUse : YV yX6_wouldUse cX6_wouldUse 3 (some .int) 2 6 := ⟨⟨gT_of (List.mem_of_getElem? (i := 1060) (by decide +kernel)) rfl, gT_of (List.mem_of_getElem? (i := 74) (by decide +kernel)) rfl, ⟨by decide, by decide⟩, by decide +kernel, by decide⟩, gT_of (List.mem_of_getElem? (i := 1059) (by decide +kernel)) rfl, gT_of (List.mem_of_getElem? (i := 31) (by decide +kernel)) rfl, rfl⟩
theorem u_X6_wouldUse_0 : L_X6_wouldUse_0 = (0, .aload_n 0, [], nS) :: (1, .getfield 16, [6, 3, 1], nS) :: (4, .iload_n 1, [], nS) :: (5, .iaload, [], nS) :: (6, .tableswitch 92 1 5 #[34, 40, 47, 60, 82], [40, 46, 53, 66, 88, 98], nS) :: L_X6_wouldUse_40 := nr rfl
theorem u_X6_wouldUse_40 : L_X6_wouldUse_40 = (40, .iload_n 2, [], nS) :: (41, .iconst 1, [], nS) :: (42, .iadd, [], nS) :: (43, .iconst 2, [], nS) :: (44, .idiv, [], nS) :: (45, .ireturn, [], nS) :: L_X6_wouldUse_46 := nr rfl
theorem u_X6_wouldUse_46 : L_X6_wouldUse_46 = (46, .aload_n 0, [], nS) :: (47, .getfield 19, [6, 4, 1], nS) :: (50, .iload_n 1, [], nS) :: (51, .iaload, [], nS) :: (52, .ireturn, [], nS) :: L_X6_wouldUse_53 := nr rfl
theorem u_X6_wouldUse_53 : L_X6_wouldUse_53 = (53, .iload_n 2, [], nS) :: (54, .iconst 1, [], nS) :: (55, .iadd, [], nS) :: (56, .iconst 2, [], nS) :: (57, .idiv, [], nS) :: (58, .aload_n 0, [], nS) :: (59, .getfield 19, [6, 4, 1], nS) :: (62, .iload_n 1, [], nS) :: (63, .iaload, [], nS) :: (64, .iadd, [], nS) :: (65, .ireturn, [], nS) :: L_X6_wouldUse_66 := nr rfl
theorem u_X6_wouldUse_66 : L_X6_wouldUse_66 = (66, .aload_n 0, [], nS) :: (67, .getfield 7, [6, 0, 1], nS) :: (70, .iconst 1, [], nS) :: (71, .iaload, [], nS) :: (72, .iconst 2, [], nS) :: (73, .irem, [], nS) :: (74, .ifCond .ne 12, [86], nS) :: (77, .aload_n 0, [], nS) :: (78, .getfield 19, [6, 4, 1], nS) :: (81, .iload_n 1, [], nS) :: (82, .iaload, [], nS) :: (83, .goto 4, [87], nS) :: L_X6_wouldUse_86 := nr rfl
theorem u_X6_wouldUse_86 : L_X6_wouldUse_86 = (86, .iconst 0, [], nS) :: L_X6_wouldUse_87 := nr rfl
theorem u_X6_wouldUse_87 : L_X6_wouldUse_87 = (87, .ireturn, [], nS) :: L_X6_wouldUse_88 := nr rfl
theorem u_X6_wouldUse_88 : L_X6_wouldUse_88 = (88, .iload_n 2, [], nS) :: (89, .bipush 9, [], nS) :: (91, .iadd, [], nS) :: (92, .bipush 10, [], nS) :: (94, .idiv, [], nS) :: (95, .iconst 1, [], nS) :: (96, .iadd, [], nS) :: (97, .ireturn, [], nS) :: L_X6_wouldUse_98 := nr rfl
theorem u_X6_wouldUse_98 : L_X6_wouldUse_98 = (98, .iload_n 2, [], nS) :: (99, .bipush 9, [], nS) :: (101, .iadd, [], nS) :: (102, .bipush 10, [], nS) :: (104, .idiv, [], nS) :: (105, .ireturn, [], nS) :: [] := nr rfl
theorem z_X6_wouldUse_0 : atL L_X6_wouldUse 0 = L_X6_wouldUse_0 := nr rfl
theorem z_X6_wouldUse_40 : atL L_X6_wouldUse 40 = L_X6_wouldUse_40 := nr rfl
theorem z_X6_wouldUse_46 : atL L_X6_wouldUse 46 = L_X6_wouldUse_46 := nr rfl
theorem z_X6_wouldUse_53 : atL L_X6_wouldUse 53 = L_X6_wouldUse_53 := nr rfl
theorem z_X6_wouldUse_66 : atL L_X6_wouldUse 66 = L_X6_wouldUse_66 := nr rfl
theorem z_X6_wouldUse_86 : atL L_X6_wouldUse 86 = L_X6_wouldUse_86 := nr rfl
theorem z_X6_wouldUse_87 : atL L_X6_wouldUse 87 = L_X6_wouldUse_87 := nr rfl
theorem z_X6_wouldUse_88 : atL L_X6_wouldUse 88 = L_X6_wouldUse_88 := nr rfl
theorem z_X6_wouldUse_98 : atL L_X6_wouldUse 98 = L_X6_wouldUse_98 := nr rfl
theorem j_X6_wouldUse_40 {G : List Item → SpS → List Value → List Value → AH → Prop} {J : Nat → SpS → List Value → List Value → AH → Prop} {S : SpS} {lv st : List Value} {h : AH} : jmp G J (afw L_X6_wouldUse [] 40) 40 S lv st h = G L_X6_wouldUse_40 S lv st h := nr rfl
theorem j_X6_wouldUse_46 {G : List Item → SpS → List Value → List Value → AH → Prop} {J : Nat → SpS → List Value → List Value → AH → Prop} {S : SpS} {lv st : List Value} {h : AH} : jmp G J (afw L_X6_wouldUse [] 46) 46 S lv st h = G L_X6_wouldUse_46 S lv st h := nr rfl
theorem j_X6_wouldUse_53 {G : List Item → SpS → List Value → List Value → AH → Prop} {J : Nat → SpS → List Value → List Value → AH → Prop} {S : SpS} {lv st : List Value} {h : AH} : jmp G J (afw L_X6_wouldUse [] 53) 53 S lv st h = G L_X6_wouldUse_53 S lv st h := nr rfl
theorem j_X6_wouldUse_66 {G : List Item → SpS → List Value → List Value → AH → Prop} {J : Nat → SpS → List Value → List Value → AH → Prop} {S : SpS} {lv st : List Value} {h : AH} : jmp G J (afw L_X6_wouldUse [] 66) 66 S lv st h = G L_X6_wouldUse_66 S lv st h := nr rfl
theorem j_X6_wouldUse_86 {G : List Item → SpS → List Value → List Value → AH → Prop} {J : Nat → SpS → List Value → List Value → AH → Prop} {S : SpS} {lv st : List Value} {h : AH} : jmp G J (afw L_X6_wouldUse [] 86) 86 S lv st h = G L_X6_wouldUse_86 S lv st h := nr rfl
theorem j_X6_wouldUse_87 {G : List Item → SpS → List Value → List Value → AH → Prop} {J : Nat → SpS → List Value → List Value → AH → Prop} {S : SpS} {lv st : List Value} {h : AH} : jmp G J (afw L_X6_wouldUse [] 87) 87 S lv st h = G L_X6_wouldUse_87 S lv st h := nr rfl
theorem j_X6_wouldUse_88 {G : List Item → SpS → List Value → List Value → AH → Prop} {J : Nat → SpS → List Value → List Value → AH → Prop} {S : SpS} {lv st : List Value} {h : AH} : jmp G J (afw L_X6_wouldUse [] 88) 88 S lv st h = G L_X6_wouldUse_88 S lv st h := nr rfl
theorem j_X6_wouldUse_98 {G : List Item → SpS → List Value → List Value → AH → Prop} {J : Nat → SpS → List Value → List Value → AH → Prop} {S : SpS} {lv st : List Value} {h : AH} : jmp G J (afw L_X6_wouldUse [] 98) 98 S lv st h = G L_X6_wouldUse_98 S lv st h := nr rfl
theorem e_X6_wouldUse {x : Addr} {v : Int32} {n : Int32} {h : AH} {K2 : Option Value → SpS → AH → Prop} : S_X6_wouldUse SH0 [.ref x, .int v, .int n] h K2 = (fun (K : Option Value → AH → Prop) => x = 64 ∧ ∃ i : Nat, i < cnt (estM h) ∧ i < 10 ∧ v = nI i ∧ K (some (.int (wish (eF (estM h) i 0) (eF (estM h) i 1) n (eS (estM h) 1)))) h) (fun v h' => K2 v SH0 h') := (lift_e P_X6_wouldUse [.ref x, .int v, .int n] h K2).trans (nr rfl)
set_option maxRecDepth 100000 in
set_option maxHeartbeats 4000000 in
theorem c_X6_wouldUse (l : Launch) : Ct l yX6_wouldUse cX6_wouldUse 3 (some .int) 1 0 0 S_X6_wouldUse := by
  refine Ct0_mk L_X6_wouldUse [] (by decide +kernel) (by decide) ok_X6_wouldUse (lk_X6_wouldUse l) ?_
  intro as h K hP
  match as, hP with
  | [.ref x, .int v, .int n], ⟨hx, i, hi, h10, hv, hK⟩ =>
  refine ⟨by simp [slotsN, Value.category], fun J hJ => ?_⟩
  subst hx hv
  rw [em_s (by omega), em_f hi (by omega), em_f hi (by omega)] at hK
  unfold wish halfU tenU at hK
  refine hJ 0 _ _ _ _ ?_
  simp only [z_X6_wouldUse_0, u_X6_wouldUse_0, u_X6_wouldUse_40, u_X6_wouldUse_46, u_X6_wouldUse_53, u_X6_wouldUse_66, u_X6_wouldUse_86, u_X6_wouldUse_87, u_X6_wouldUse_88, u_X6_wouldUse_98, j_X6_wouldUse_40, j_X6_wouldUse_46, j_X6_wouldUse_53, j_X6_wouldUse_66, j_X6_wouldUse_86, j_X6_wouldUse_87, j_X6_wouldUse_88, j_X6_wouldUse_98, ev_aload_n0, ev_getfR, ev_iload_n1, ev_iaload, ev_tableswitch, ev_sw1, ev_swc, ev_iload_n2, ev_iconst, ev_iadd, ev_idiv, ev_iret, ro_i, ro_z, ev_irem, ev_if_ne, ev_goto, ev_bipush, vq3_0, vq3_1, vq3_2, cq_0, cq_1, cq_2, capO_z, kb_6, kb_7, kb_8, kb_9, kb_10, kb_12, kb_16, kb_20, kb_21, kb_30, kb_32, kb_40, kb_48, kb_50, kb_57, kb_59, kb_60, kb_63, kb_70, kb_78, kb_81, kb_82, kb_84, kb_97, kb_99, kb_100, kb_101, kb_119, kb_120, kb_122, ki_m1, ki_0, ki_1, ki_2, ki_3, ki_4, ki_5, ki_6, ki_7, ki_8, ki_9, ki_10, ki_11, ki_12, ki_13, ki_14, ki_15, ki_16, ki_17, ki_18, ki_19, ki_20, ki_21, ki_22, ki_23, ki_24, ki_25, ki_26, ki_27, ki_28, ki_29, ki_30, ki_31, ki_32, ki_33, ki_34, ki_35, ki_36, ki_37, ki_38, ki_39, ki_40, ki_41, ki_42, ki_43, ki_44, ki_45, ki_46, ki_47, ki_48, ki_49, ki_50, ki_51, ki_52, ki_53, ki_54, ki_55, ki_56, ki_57, ki_58, ki_59, ki_60, ki_61, ki_62, ki_63, ks_m2000, ks_m1006, ks_m1005, ks_m1004, ks_m1003, ks_m1002, ks_m1000, ks_200, ks_250, ks_255, ks_256, ks_320, ks_660, ks_999, ks_1000, ks_9999, ks_12345, ne_2, ne_10, t_0, t_40, t_41, t_42, t_43, t_44, t_45, t_46, t_47, t_64, t_65, t_66, t_67, t_68, t_69, t_70, t_71, t_72, t_73, t_74, t_75, t_76, t_77, t_78, t_79, t_80, t_81, t_82, r_0_0, r_0_1, r_0_2, r_0_4, r_0_5, r_0_6, r_0_7, r_40_0, r_40_5, r_44_0, r_44_1, r_64_0, r_64_1, r_64_3, r_64_4, r_64_5, r_64_6, r_64_7, r_64_8, r_64_9, r_64_12, r_64_17, r_64_18, r_64_19, r_64_20, r_64_22, r_64_23, r_64_24, r_64_25, t_1, t_14, t_27, t_2, t_15, t_28, Nat.reduceEqDiff, ne_eq, not_false_eq_true, false_implies, true_implies, implies_true, Nat.reduceAdd, Nat.reduceLeDiff, Nat.reduceLT, Nat.reduceMul, or_true, true_or, if_true, if_false, not_true_eq_false, and_self, bF, Nat.reduceBEq, Bool.false_and, Bool.and_false, Bool.or_self, Bool.or_false, Bool.false_or, Bool.false_eq_true, Int.reduceAdd, Bool.and_self, Bool.true_and, Bool.and_true, beq_self_eq_true, not_not_, i10_, i01_, List.length_nil, List.length_cons, true_and, and_true, false_and, and_false, kl_i, kl_a, kl_n, kl_l, tl_s, tl_n, rv_S, pd_0, pd_e, pd_r, pd_i, pd_l, vp10 h10, nI_10 h10]
  simp only [Nat.reduceAdd] at hK
  refine ⟨fun q => ?_, fun q => ?_, fun q => ?_, fun q => ⟨fun q2 => ?_, fun q2 => ?_⟩, fun q => ?_, fun q => ?_⟩
  · rw [if_pos q] at hK; exact hK
  · rw [q, if_neg (by decide), if_pos rfl] at hK; exact hK
  · rw [q, if_neg (by decide), if_neg (by decide), if_pos rfl] at hK; exact hK
  · rw [q, if_neg (by decide), if_neg (by decide), if_neg (by decide), if_pos rfl, if_neg q2] at hK; exact hK
  · rw [q, if_neg (by decide), if_neg (by decide), if_neg (by decide), if_pos rfl, if_pos q2] at hK; exact hK
  · rw [q, if_neg (by decide), if_neg (by decide), if_neg (by decide), if_neg (by decide), if_pos rfl] at hK; exact hK
  · rw [if_neg q.1.1.1.1, if_neg q.1.1.1.2, if_neg q.1.1.2, if_neg q.1.2, if_neg q.2] at hK; exact hK
def P_X6_usesOf : Sp0T := fun as h K => match as with
  | [.ref x, .int v, .int n] => x = 64 ∧ ∃ i : Nat, i < cnt (estM h) ∧ i < 10 ∧ v = nI i ∧ K (some (.int (useI (eF (estM h) i 0) (eF (estM h) i 1) n (eS (estM h) 1)))) h
  | _ => False
def S_X6_usesOf : SpT := lift P_X6_usesOf
def L_X6_usesOf_0 : List Item := (0, .iload_n 2, [], nS) :: (1, .aload_n 0, [], nS) :: (2, .iload_n 1, [], nS) :: (3, .iload_n 2, [], nS) :: (4, .invokevirtual 198, [2, 6, 0, 0], S_X6_wouldUse) :: (7, .invokestatic 193, [1], nS) :: (10, .ireturn, [], nS) :: []
def L_X6_usesOf : List Item := L_X6_usesOf_0
theorem ok_X6_usesOf : okB cX6_usesOf L_X6_usesOf = true := by decide +kernel
theorem lk_X6_usesOf (l : Launch) : LKs l RX6 2 false L_X6_usesOf := ⟨trivial, trivial, trivial, trivial, ⟨_, _, _, _, _, _, _, _, _, rfl, c_X6_wouldUse l, Or.inl ⟨by decide, yv_X6_wouldUse⟩, by decide, gT_of (List.mem_of_getElem? (i := 1057) (by decide +kernel)) rfl⟩, Or.inr (Or.inl ⟨rfl, gT_of (List.mem_of_getElem? (i := 1061) (by decide +kernel)) rfl⟩), trivial, trivial⟩
theorem b_X6_usesOf_0 : atL L_X6_usesOf 0 = L_X6_usesOf_0 := rfl
theorem yv_X6_usesOf : YV yX6_usesOf cX6_usesOf 3 (some .int) 2 6 := ⟨⟨gT_of (List.mem_of_getElem? (i := 1056) (by decide +kernel)) rfl, gT_of (List.mem_of_getElem? (i := 74) (by decide +kernel)) rfl, ⟨by decide, by decide⟩, by decide +kernel, by decide⟩, gT_of (List.mem_of_getElem? (i := 1055) (by decide +kernel)) rfl, gT_of (List.mem_of_getElem? (i := 30) (by decide +kernel)) rfl, rfl⟩
theorem u_X6_usesOf_0 : L_X6_usesOf_0 = (0, .iload_n 2, [], nS) :: (1, .aload_n 0, [], nS) :: (2, .iload_n 1, [], nS) :: (3, .iload_n 2, [], nS) :: (4, .invokevirtual 198, [2, 6, 0, 0], S_X6_wouldUse) :: (7, .invokestatic 193, [1], nS) :: (10, .ireturn, [], nS) :: [] := nr rfl
theorem z_X6_usesOf_0 : atL L_X6_usesOf 0 = L_X6_usesOf_0 := nr rfl
theorem e_X6_usesOf {x : Addr} {v : Int32} {n : Int32} {h : AH} {K2 : Option Value → SpS → AH → Prop} : S_X6_usesOf SH0 [.ref x, .int v, .int n] h K2 = (fun (K : Option Value → AH → Prop) => x = 64 ∧ ∃ i : Nat, i < cnt (estM h) ∧ i < 10 ∧ v = nI i ∧ K (some (.int (useI (eF (estM h) i 0) (eF (estM h) i 1) n (eS (estM h) 1)))) h) (fun v h' => K2 v SH0 h') := (lift_e P_X6_usesOf [.ref x, .int v, .int n] h K2).trans (nr rfl)
set_option maxRecDepth 100000 in
set_option maxHeartbeats 4000000 in
theorem c_X6_usesOf (l : Launch) : Ct l yX6_usesOf cX6_usesOf 3 (some .int) 2 0 0 S_X6_usesOf := by
  refine Ct0_mk L_X6_usesOf [] (by decide +kernel) (by decide) ok_X6_usesOf (lk_X6_usesOf l) ?_
  intro as h K hP
  match as, hP with
  | [.ref x, .int v, .int n], ⟨hx, i, hi, h10, hv, hK⟩ =>
  refine ⟨by simp [slotsN, Value.category], fun J hJ => ?_⟩
  subst hx hv
  unfold useI at hK
  refine hJ 0 _ _ _ _ ?_
  simp only [z_X6_usesOf_0, u_X6_usesOf_0, ev_iload_n2, ev_aload_n0, ev_iload_n1, ev_callV2, ev_min, ev_iret, ro_i, ro_z, ↓e_X6_wouldUse, vq3_0, vq3_1, vq3_2, cq_0, cq_1, cq_2, capO_z, kb_6, kb_7, kb_8, kb_9, kb_10, kb_12, kb_16, kb_20, kb_21, kb_30, kb_32, kb_40, kb_48, kb_50, kb_57, kb_59, kb_60, kb_63, kb_70, kb_78, kb_81, kb_82, kb_84, kb_97, kb_99, kb_100, kb_101, kb_119, kb_120, kb_122, ki_m1, ki_0, ki_1, ki_2, ki_3, ki_4, ki_5, ki_6, ki_7, ki_8, ki_9, ki_10, ki_11, ki_12, ki_13, ki_14, ki_15, ki_16, ki_17, ki_18, ki_19, ki_20, ki_21, ki_22, ki_23, ki_24, ki_25, ki_26, ki_27, ki_28, ki_29, ki_30, ki_31, ki_32, ki_33, ki_34, ki_35, ki_36, ki_37, ki_38, ki_39, ki_40, ki_41, ki_42, ki_43, ki_44, ki_45, ki_46, ki_47, ki_48, ki_49, ki_50, ki_51, ki_52, ki_53, ki_54, ki_55, ki_56, ki_57, ki_58, ki_59, ki_60, ki_61, ki_62, ki_63, ks_m2000, ks_m1006, ks_m1005, ks_m1004, ks_m1003, ks_m1002, ks_m1000, ks_200, ks_250, ks_255, ks_256, ks_320, ks_660, ks_999, ks_1000, ks_9999, ks_12345, ne_2, ne_10, t_0, t_40, t_41, t_42, t_43, t_44, t_45, t_46, t_47, t_64, t_65, t_66, t_67, t_68, t_69, t_70, t_71, t_72, t_73, t_74, t_75, t_76, t_77, t_78, t_79, t_80, t_81, t_82, r_0_0, r_0_1, r_0_2, r_0_4, r_0_5, r_0_6, r_0_7, r_40_0, r_40_5, r_44_0, r_44_1, r_64_0, r_64_1, r_64_3, r_64_4, r_64_5, r_64_6, r_64_7, r_64_8, r_64_9, r_64_12, r_64_17, r_64_18, r_64_19, r_64_20, r_64_22, r_64_23, r_64_24, r_64_25, t_1, t_14, t_27, t_2, t_15, t_28, Nat.reduceEqDiff, ne_eq, not_false_eq_true, false_implies, true_implies, implies_true, Nat.reduceAdd, Nat.reduceLeDiff, Nat.reduceLT, Nat.reduceMul, or_true, true_or, if_true, if_false, not_true_eq_false, and_self, bF, Nat.reduceBEq, Bool.false_and, Bool.and_false, Bool.or_self, Bool.or_false, Bool.false_or, Bool.false_eq_true, Int.reduceAdd, Bool.and_self, Bool.true_and, Bool.and_true, beq_self_eq_true, not_not_, i10_, i01_, List.length_nil, List.length_cons, true_and, and_true, false_and, and_false, kl_i, kl_a, kl_n, kl_l, tl_s, tl_n, rv_S, pd_0, pd_e, pd_r, pd_i, pd_l]
  exact ⟨i, hi, h10, rfl, hK⟩
def P_X6_joyTogether : Sp0T := fun as h K => match as with
  | [.ref x, .int s] => x = 64 ∧ K (some (.int (joyT (estM h) s))) h
  | _ => False
def S_X6_joyTogether : SpT := lift P_X6_joyTogether
def L_X6_joyTogether_34 : List Item := (34, .iload_n 2, [], nS) :: (35, .ireturn, [], nS) :: []
def L_X6_joyTogether_28 : List Item := (28, .iinc 3 1, [], nS) :: (31, .goto (-27), [4], nS) :: L_X6_joyTogether_34
def L_X6_joyTogether_4 : List Item := (4, .iload_n 3, [], nS) :: (5, .bipush 8, [], nS) :: (7, .if_icmp .ge 27, [34], nS) :: (10, .iload_n 1, [], nS) :: (11, .iload_n 3, [], nS) :: (12, .ishr, [], nS) :: (13, .iconst 1, [], nS) :: (14, .iand, [], nS) :: (15, .iconst 1, [], nS) :: (16, .if_icmp .ne 12, [28], nS) :: (19, .iload_n 2, [], nS) :: (20, .aload_n 0, [], nS) :: (21, .getfield 13, [6, 1, 1], nS) :: (24, .iload_n 3, [], nS) :: (25, .iaload, [], nS) :: (26, .iadd, [], nS) :: (27, .istore_n 2, [], nS) :: L_X6_joyTogether_28
def L_X6_joyTogether_0 : List Item := (0, .iconst 0, [], nS) :: (1, .istore_n 2, [], nS) :: (2, .iconst 0, [], nS) :: (3, .istore_n 3, [], nS) :: (4, .nop, [], nS) :: L_X6_joyTogether_4
def L_X6_joyTogether : List Item := L_X6_joyTogether_0
theorem ok_X6_joyTogether : okB cX6_joyTogether L_X6_joyTogether = true := by decide +kernel
theorem lk_X6_joyTogether (l : Launch) : LKs l RX6 1 false L_X6_joyTogether := ⟨trivial, trivial, trivial, trivial, trivial, trivial, trivial, trivial, trivial, trivial, trivial, trivial, trivial, trivial, trivial, trivial, trivial, ⟨_, _, _, rfl, ⟨(RX6, TX6, 26), rfl, by decide, gT_of (List.mem_of_getElem? (i := 919) (by decide +kernel)) rfl⟩, rfl⟩, trivial, trivial, trivial, trivial, trivial, trivial, trivial, trivial, trivial⟩
theorem b_X6_joyTogether_0 : atL L_X6_joyTogether 0 = L_X6_joyTogether_0 := rfl
theorem b_X6_joyTogether_4 : atL L_X6_joyTogether 4 = L_X6_joyTogether_4 := rfl
theorem b_X6_joyTogether_28 : atL L_X6_joyTogether 28 = L_X6_joyTogether_28 := rfl
theorem b_X6_joyTogether_34 : atL L_X6_joyTogether 34 = L_X6_joyTogether_34 := rfl
theorem a_X6_joyTogether_28 : afw L_X6_joyTogether [4] 28 = L_X6_joyTogether_28 := rfl
theorem a_X6_joyTogether_34 : afw L_X6_joyTogether [4] 34 = L_X6_joyTogether_34 := rfl
theorem a_X6_joyTogether_4 : afw L_X6_joyTogether [4] 4 = [] := rfl
theorem yv_X6_joyTogether : YV yX6_joyTogether cX6_joyTogether 4 (some .int) 1 6 := ⟨⟨gT_of (List.mem_of_getElem? (i := 1334) (by decide +kernel)) rfl, gT_of (List.mem_of_getElem? (i := 74) (by decide +kernel)) rfl, ⟨by decide, by decide⟩, by decide +kernel, by decide⟩, gT_of (List.mem_of_getElem? (i := 1333) (by decide +kernel)) rfl, gT_of (List.mem_of_getElem? (i := 64) (by decide +kernel)) rfl, rfl⟩
theorem u_X6_joyTogether_0 : L_X6_joyTogether_0 = (0, .iconst 0, [], nS) :: (1, .istore_n 2, [], nS) :: (2, .iconst 0, [], nS) :: (3, .istore_n 3, [], nS) :: (4, .nop, [], nS) :: L_X6_joyTogether_4 := nr rfl
theorem u_X6_joyTogether_4 : L_X6_joyTogether_4 = (4, .iload_n 3, [], nS) :: (5, .bipush 8, [], nS) :: (7, .if_icmp .ge 27, [34], nS) :: (10, .iload_n 1, [], nS) :: (11, .iload_n 3, [], nS) :: (12, .ishr, [], nS) :: (13, .iconst 1, [], nS) :: (14, .iand, [], nS) :: (15, .iconst 1, [], nS) :: (16, .if_icmp .ne 12, [28], nS) :: (19, .iload_n 2, [], nS) :: (20, .aload_n 0, [], nS) :: (21, .getfield 13, [6, 1, 1], nS) :: (24, .iload_n 3, [], nS) :: (25, .iaload, [], nS) :: (26, .iadd, [], nS) :: (27, .istore_n 2, [], nS) :: L_X6_joyTogether_28 := nr rfl
theorem u_X6_joyTogether_28 : L_X6_joyTogether_28 = (28, .iinc 3 1, [], nS) :: (31, .goto (-27), [4], nS) :: L_X6_joyTogether_34 := nr rfl
theorem u_X6_joyTogether_34 : L_X6_joyTogether_34 = (34, .iload_n 2, [], nS) :: (35, .ireturn, [], nS) :: [] := nr rfl
theorem z_X6_joyTogether_0 : atL L_X6_joyTogether 0 = L_X6_joyTogether_0 := nr rfl
theorem z_X6_joyTogether_4 : atL L_X6_joyTogether 4 = L_X6_joyTogether_4 := nr rfl
theorem z_X6_joyTogether_28 : atL L_X6_joyTogether 28 = L_X6_joyTogether_28 := nr rfl
theorem z_X6_joyTogether_34 : atL L_X6_joyTogether 34 = L_X6_joyTogether_34 := nr rfl
theorem j_X6_joyTogether_28 {G : List Item → SpS → List Value → List Value → AH → Prop} {J : Nat → SpS → List Value → List Value → AH → Prop} {S : SpS} {lv st : List Value} {h : AH} : jmp G J (afw L_X6_joyTogether [4] 28) 28 S lv st h = G L_X6_joyTogether_28 S lv st h := nr rfl
theorem j_X6_joyTogether_34 {G : List Item → SpS → List Value → List Value → AH → Prop} {J : Nat → SpS → List Value → List Value → AH → Prop} {S : SpS} {lv st : List Value} {h : AH} : jmp G J (afw L_X6_joyTogether [4] 34) 34 S lv st h = G L_X6_joyTogether_34 S lv st h := nr rfl
theorem j_X6_joyTogether_4 {G : List Item → SpS → List Value → List Value → AH → Prop} {J : Nat → SpS → List Value → List Value → AH → Prop} {S : SpS} {lv st : List Value} {h : AH} : jmp G J (afw L_X6_joyTogether [4] 4) 4 S lv st h = J 4 S lv st h := nr rfl
theorem e_X6_joyTogether {x : Addr} {s : Int32} {h : AH} {K2 : Option Value → SpS → AH → Prop} : S_X6_joyTogether SH0 [.ref x, .int s] h K2 = (fun (K : Option Value → AH → Prop) => x = 64 ∧ K (some (.int (joyT (estM h) s))) h) (fun v h' => K2 v SH0 h') := (lift_e P_X6_joyTogether [.ref x, .int s] h K2).trans (nr rfl)
set_option maxRecDepth 100000 in
set_option maxHeartbeats 4000000 in
theorem c_X6_joyTogether (l : Launch) : Ct l yX6_joyTogether cX6_joyTogether 4 (some .int) 1 0 0 S_X6_joyTogether := by
  refine Ct0_mk L_X6_joyTogether [4] (by decide +kernel) (by decide) ok_X6_joyTogether (lk_X6_joyTogether l) ?_
  intro as h K hP
  match as, hP with
  | [.ref x, .int s], ⟨hx, hK⟩ =>
  refine ⟨by simp [slotsN, Value.category], fun J hJ => ?_⟩
  subst hx
  refine hJ 0 _ _ _ _ ?_
  simp only [z_X6_joyTogether_0, u_X6_joyTogether_0, u_X6_joyTogether_4, u_X6_joyTogether_28, u_X6_joyTogether_34, j_X6_joyTogether_4, j_X6_joyTogether_28, j_X6_joyTogether_34, ev_iconst, ev_istore_n2, ev_istore_n3, ev_nop, ev_iload_n3, ev_bipush, ev_ic_ge, ev_iload_n1, ev_ishr, ev_iand, ev_ic_ne, ev_iload_n2, ev_aload_n0, ev_getfR, ev_iaload, ev_iadd, ev_iinc3, ev_goto, ev_iret, ro_i, ro_z, vq3_0, vq3_1, vq3_2, cq_0, cq_1, cq_2, capO_z, kb_6, kb_7, kb_8, kb_9, kb_10, kb_12, kb_16, kb_20, kb_21, kb_30, kb_32, kb_40, kb_48, kb_50, kb_57, kb_59, kb_60, kb_63, kb_70, kb_78, kb_81, kb_82, kb_84, kb_97, kb_99, kb_100, kb_101, kb_119, kb_120, kb_122, ki_m1, ki_0, ki_1, ki_2, ki_3, ki_4, ki_5, ki_6, ki_7, ki_8, ki_9, ki_10, ki_11, ki_12, ki_13, ki_14, ki_15, ki_16, ki_17, ki_18, ki_19, ki_20, ki_21, ki_22, ki_23, ki_24, ki_25, ki_26, ki_27, ki_28, ki_29, ki_30, ki_31, ki_32, ki_33, ki_34, ki_35, ki_36, ki_37, ki_38, ki_39, ki_40, ki_41, ki_42, ki_43, ki_44, ki_45, ki_46, ki_47, ki_48, ki_49, ki_50, ki_51, ki_52, ki_53, ki_54, ki_55, ki_56, ki_57, ki_58, ki_59, ki_60, ki_61, ki_62, ki_63, ks_m2000, ks_m1006, ks_m1005, ks_m1004, ks_m1003, ks_m1002, ks_m1000, ks_200, ks_250, ks_255, ks_256, ks_320, ks_660, ks_999, ks_1000, ks_9999, ks_12345, ne_2, ne_10, t_0, t_40, t_41, t_42, t_43, t_44, t_45, t_46, t_47, t_64, t_65, t_66, t_67, t_68, t_69, t_70, t_71, t_72, t_73, t_74, t_75, t_76, t_77, t_78, t_79, t_80, t_81, t_82, r_0_0, r_0_1, r_0_2, r_0_4, r_0_5, r_0_6, r_0_7, r_40_0, r_40_5, r_44_0, r_44_1, r_64_0, r_64_1, r_64_3, r_64_4, r_64_5, r_64_6, r_64_7, r_64_8, r_64_9, r_64_12, r_64_17, r_64_18, r_64_19, r_64_20, r_64_22, r_64_23, r_64_24, r_64_25, t_1, t_14, t_27, t_2, t_15, t_28, Nat.reduceEqDiff, ne_eq, not_false_eq_true, false_implies, true_implies, implies_true, Nat.reduceAdd, Nat.reduceLeDiff, Nat.reduceLT, Nat.reduceMul, or_true, true_or, if_true, if_false, not_true_eq_false, and_self, bF, Nat.reduceBEq, Bool.false_and, Bool.and_false, Bool.or_self, Bool.or_false, Bool.false_or, Bool.false_eq_true, Int.reduceAdd, Bool.and_self, Bool.true_and, Bool.and_true, beq_self_eq_true, not_not_, i10_, i01_, List.length_nil, List.length_cons, true_and, and_true, false_and, and_false, kl_i, kl_a, kl_n, kl_l, tl_s, tl_n, rv_S, pd_0, pd_e, pd_r, pd_i, pd_l]
  refine dn (P := fun i => J 4 SH0 [.ref 64, .int s, .int (forN i (fun t a => if (s >>> (nI t &&& 31)) &&& 1 = 1 then a + eJ (estM h) t else a) 0), .int (nI i)] [] h) 8 ?_ (fun i hi ih => ?_)
  · refine hJ 4 _ _ _ _ ?_
    simp only [z_X6_joyTogether_4, u_X6_joyTogether_0, u_X6_joyTogether_4, u_X6_joyTogether_28, u_X6_joyTogether_34, j_X6_joyTogether_4, j_X6_joyTogether_28, j_X6_joyTogether_34, ev_iconst, ev_istore_n2, ev_istore_n3, ev_nop, ev_iload_n3, ev_bipush, ev_ic_ge, ev_iload_n1, ev_ishr, ev_iand, ev_ic_ne, ev_iload_n2, ev_aload_n0, ev_getfR, ev_iaload, ev_iadd, ev_iinc3, ev_goto, ev_iret, ro_i, ro_z, vq3_0, vq3_1, vq3_2, cq_0, cq_1, cq_2, capO_z, kb_6, kb_7, kb_8, kb_9, kb_10, kb_12, kb_16, kb_20, kb_21, kb_30, kb_32, kb_40, kb_48, kb_50, kb_57, kb_59, kb_60, kb_63, kb_70, kb_78, kb_81, kb_82, kb_84, kb_97, kb_99, kb_100, kb_101, kb_119, kb_120, kb_122, ki_m1, ki_0, ki_1, ki_2, ki_3, ki_4, ki_5, ki_6, ki_7, ki_8, ki_9, ki_10, ki_11, ki_12, ki_13, ki_14, ki_15, ki_16, ki_17, ki_18, ki_19, ki_20, ki_21, ki_22, ki_23, ki_24, ki_25, ki_26, ki_27, ki_28, ki_29, ki_30, ki_31, ki_32, ki_33, ki_34, ki_35, ki_36, ki_37, ki_38, ki_39, ki_40, ki_41, ki_42, ki_43, ki_44, ki_45, ki_46, ki_47, ki_48, ki_49, ki_50, ki_51, ki_52, ki_53, ki_54, ki_55, ki_56, ki_57, ki_58, ki_59, ki_60, ki_61, ki_62, ki_63, ks_m2000, ks_m1006, ks_m1005, ks_m1004, ks_m1003, ks_m1002, ks_m1000, ks_200, ks_250, ks_255, ks_256, ks_320, ks_660, ks_999, ks_1000, ks_9999, ks_12345, ne_2, ne_10, t_0, t_40, t_41, t_42, t_43, t_44, t_45, t_46, t_47, t_64, t_65, t_66, t_67, t_68, t_69, t_70, t_71, t_72, t_73, t_74, t_75, t_76, t_77, t_78, t_79, t_80, t_81, t_82, r_0_0, r_0_1, r_0_2, r_0_4, r_0_5, r_0_6, r_0_7, r_40_0, r_40_5, r_44_0, r_44_1, r_64_0, r_64_1, r_64_3, r_64_4, r_64_5, r_64_6, r_64_7, r_64_8, r_64_9, r_64_12, r_64_17, r_64_18, r_64_19, r_64_20, r_64_22, r_64_23, r_64_24, r_64_25, t_1, t_14, t_27, t_2, t_15, t_28, Nat.reduceEqDiff, ne_eq, not_false_eq_true, false_implies, true_implies, implies_true, Nat.reduceAdd, Nat.reduceLeDiff, Nat.reduceLT, Nat.reduceMul, or_true, true_or, if_true, if_false, not_true_eq_false, and_self, bF, Nat.reduceBEq, Bool.false_and, Bool.and_false, Bool.or_self, Bool.or_false, Bool.false_or, Bool.false_eq_true, Int.reduceAdd, Bool.and_self, Bool.true_and, Bool.and_true, beq_self_eq_true, not_not_, i10_, i01_, List.length_nil, List.length_cons, true_and, and_true, false_and, and_false, kl_i, kl_a, kl_n, kl_l, tl_s, tl_n, rv_S, pd_0, pd_e, pd_r, pd_i, pd_l, show ((8 : Int32) ≤ nI 8) = True by decide]
    exact hK
  · have hg : eJ (estM h) i = gI h 66 i := em_j hi
    refine hJ 4 _ _ _ _ ?_
    simp only [z_X6_joyTogether_4, u_X6_joyTogether_0, u_X6_joyTogether_4, u_X6_joyTogether_28, u_X6_joyTogether_34, j_X6_joyTogether_4, j_X6_joyTogether_28, j_X6_joyTogether_34, ev_iconst, ev_istore_n2, ev_istore_n3, ev_nop, ev_iload_n3, ev_bipush, ev_ic_ge, ev_iload_n1, ev_ishr, ev_iand, ev_ic_ne, ev_iload_n2, ev_aload_n0, ev_getfR, ev_iaload, ev_iadd, ev_iinc3, ev_goto, ev_iret, ro_i, ro_z, vq3_0, vq3_1, vq3_2, cq_0, cq_1, cq_2, capO_z, kb_6, kb_7, kb_8, kb_9, kb_10, kb_12, kb_16, kb_20, kb_21, kb_30, kb_32, kb_40, kb_48, kb_50, kb_57, kb_59, kb_60, kb_63, kb_70, kb_78, kb_81, kb_82, kb_84, kb_97, kb_99, kb_100, kb_101, kb_119, kb_120, kb_122, ki_m1, ki_0, ki_1, ki_2, ki_3, ki_4, ki_5, ki_6, ki_7, ki_8, ki_9, ki_10, ki_11, ki_12, ki_13, ki_14, ki_15, ki_16, ki_17, ki_18, ki_19, ki_20, ki_21, ki_22, ki_23, ki_24, ki_25, ki_26, ki_27, ki_28, ki_29, ki_30, ki_31, ki_32, ki_33, ki_34, ki_35, ki_36, ki_37, ki_38, ki_39, ki_40, ki_41, ki_42, ki_43, ki_44, ki_45, ki_46, ki_47, ki_48, ki_49, ki_50, ki_51, ki_52, ki_53, ki_54, ki_55, ki_56, ki_57, ki_58, ki_59, ki_60, ki_61, ki_62, ki_63, ks_m2000, ks_m1006, ks_m1005, ks_m1004, ks_m1003, ks_m1002, ks_m1000, ks_200, ks_250, ks_255, ks_256, ks_320, ks_660, ks_999, ks_1000, ks_9999, ks_12345, ne_2, ne_10, t_0, t_40, t_41, t_42, t_43, t_44, t_45, t_46, t_47, t_64, t_65, t_66, t_67, t_68, t_69, t_70, t_71, t_72, t_73, t_74, t_75, t_76, t_77, t_78, t_79, t_80, t_81, t_82, r_0_0, r_0_1, r_0_2, r_0_4, r_0_5, r_0_6, r_0_7, r_40_0, r_40_5, r_44_0, r_44_1, r_64_0, r_64_1, r_64_3, r_64_4, r_64_5, r_64_6, r_64_7, r_64_8, r_64_9, r_64_12, r_64_17, r_64_18, r_64_19, r_64_20, r_64_22, r_64_23, r_64_24, r_64_25, t_1, t_14, t_27, t_2, t_15, t_28, Nat.reduceEqDiff, ne_eq, not_false_eq_true, false_implies, true_implies, implies_true, Nat.reduceAdd, Nat.reduceLeDiff, Nat.reduceLT, Nat.reduceMul, or_true, true_or, if_true, if_false, not_true_eq_false, and_self, bF, Nat.reduceBEq, Bool.false_and, Bool.and_false, Bool.or_self, Bool.or_false, Bool.false_or, Bool.false_eq_true, Int.reduceAdd, Bool.and_self, Bool.true_and, Bool.and_true, beq_self_eq_true, not_not_, i10_, i01_, List.length_nil, List.length_cons, true_and, and_true, false_and, and_false, kl_i, kl_a, kl_n, kl_l, tl_s, tl_n, rv_S, pd_0, pd_e, pd_r, pd_i, pd_l, lp8F hi, vp8 hi, nI_clamp (show i < 2 ^ 31 by omega), nI_1, ← hg]
    rw [forN_s] at ih
    grind
