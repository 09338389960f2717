variable {nn : Nat}
/-! ===== what the class's calls share ===== -/
def supE (E : ES) : ES := forgetE (cnt E) E
theorem ok_sup {E : ES} (ho : okE E) : okE (supE E) := sameE_ok (same_forget _ _) ho
theorem cnt_sup (E : ES) : cnt (supE E) = cnt E := sameE_cnt (same_forget _ _)
def isE1 : isE 1 := Or.inl rfl
def isE14 : isE 14 := Or.inr (Or.inl rfl)
def isE27 : isE 27 := Or.inr (Or.inr rfl)
theorem isE1t : isE 1 = True := eq_true isE1
theorem isE14t : isE 14 = True := eq_true isE14
theorem isE27t : isE 27 = True := eq_true isE27
theorem imp_t {p : Prop} : (True → p) = p := propext ⟨fun q => q trivial, fun q _ => q⟩
theorem imp_f {p : Prop} : (False → p) = True := eq_true False.elim
theorem not_t : (¬ True) = False := eq_false (fun q => q trivial)
theorem not_f : (¬ False) = True := eq_true id
theorem one_z : ((1 : Int32) = 0) = False := by decide
theorem zero_z : ((0 : Int32) = 0) = True := eq_true rfl
theorem le_f {a b : Int32} : (¬ a ≤ b) = (b < a) := propext Int32.not_le
theorem lt_f {a b : Int32} : (¬ a < b) = (b ≤ a) := propext Int32.not_lt
def P_X5_isWithin : Sp0T := fun as h K => match as with
  | [.int v, .int m] => K (some (.int (b2i (inI v m)))) h
  | _ => False
def S_X5_isWithin : SpT := lift P_X5_isWithin
def L_X5_isWithin_14 : List Item := (14, .ireturn, [], nS) :: []
def L_X5_isWithin_13 : List Item := (13, .iconst 0, [], nS) :: L_X5_isWithin_14
def L_X5_isWithin_0 : List Item := (0, .iload_n 0, [], nS) :: (1, .ifCond .lt 12, [13], nS) :: (4, .iload_n 0, [], nS) :: (5, .iload_n 1, [], nS) :: (6, .if_icmp .gt 7, [13], nS) :: (9, .iconst 1, [], nS) :: (10, .goto 4, [14], nS) :: L_X5_isWithin_13
def L_X5_isWithin : List Item := L_X5_isWithin_0
theorem ok_X5_isWithin : okB cX5_isWithin L_X5_isWithin = true := by decide +kernel
theorem lk_X5_isWithin (l : Launch) : LKs l RX5 1 false L_X5_isWithin := ⟨trivial, trivial, trivial, trivial, trivial, trivial, trivial, trivial, trivial, trivial⟩
theorem b_X5_isWithin_0 : atL L_X5_isWithin 0 = L_X5_isWithin_0 := rfl
theorem b_X5_isWithin_13 : atL L_X5_isWithin 13 = L_X5_isWithin_13 := rfl
theorem b_X5_isWithin_14 : atL L_X5_isWithin 14 = L_X5_isWithin_14 := rfl
theorem a_X5_isWithin_13 : afw L_X5_isWithin [] 13 = L_X5_isWithin_13 := rfl
theorem a_X5_isWithin_14 : afw L_X5_isWithin [] 14 = L_X5_isWithin_14 := rfl
theorem yv_X5_isWithin : YS yX5_isWithin cX5_isWithin 2 (some .boolean) 2 := ⟨⟨gT_of (List.mem_of_getElem? (i := 225) (by decide +kernel)) rfl, gT_of (List.mem_of_getElem? (i := 26) (by decide +kernel)) rfl, ⟨by decide, by decide⟩, by decide +kernel, by decide⟩, gT_of (List.mem_of_getElem? (i := 224) (by decide +kernel)) rfl⟩
theorem u_X5_isWithin_0 : L_X5_isWithin_0 = (0, .iload_n 0, [], nS) :: (1, .ifCond .lt 12, [13], nS) :: (4, .iload_n 0, [], nS) :: (5, .iload_n 1, [], nS) :: (6, .if_icmp .gt 7, [13], nS) :: (9, .iconst 1, [], nS) :: (10, .goto 4, [14], nS) :: L_X5_isWithin_13 := nr rfl
theorem u_X5_isWithin_13 : L_X5_isWithin_13 = (13, .iconst 0, [], nS) :: L_X5_isWithin_14 := nr rfl
theorem u_X5_isWithin_14 : L_X5_isWithin_14 = (14, .ireturn, [], nS) :: [] := nr rfl
theorem z_X5_isWithin_0 : atL L_X5_isWithin 0 = L_X5_isWithin_0 := nr rfl
theorem z_X5_isWithin_13 : atL L_X5_isWithin 13 = L_X5_isWithin_13 := nr rfl
theorem z_X5_isWithin_14 : atL L_X5_isWithin 14 = L_X5_isWithin_14 := nr rfl
theorem j_X5_isWithin_13 {G : List Item → SpS → List Value → List Value → AH → Prop} {J : Nat → SpS → List Value → List Value → AH → Prop} {S : SpS} {lv st : List Value} {h : AH} : jmp G J (afw L_X5_isWithin [] 13) 13 S lv st h = G L_X5_isWithin_13 S lv st h := nr rfl
theorem j_X5_isWithin_14 {G : List Item → SpS → List Value → List Value → AH → Prop} {J : Nat → SpS → List Value → List Value → AH → Prop} {S : SpS} {lv st : List Value} {h : AH} : jmp G J (afw L_X5_isWithin [] 14) 14 S lv st h = G L_X5_isWithin_14 S lv st h := nr rfl
theorem e_X5_isWithin {v : Int32} {m : Int32} {h : AH} {K2 : Option Value → SpS → AH → Prop} : S_X5_isWithin (SHn nn) [.int v, .int m] h K2 = (fun (K : Option Value → AH → Prop) => K (some (.int (b2i (inI v m)))) h) (fun v h' => K2 v (SHn nn) h') := (lift_e P_X5_isWithin [.int v, .int m] h K2).trans (nr rfl)
set_option maxRecDepth 100000 in
set_option maxHeartbeats 4000000 in
theorem c_X5_isWithin (l : Launch) : Ct l yX5_isWithin cX5_isWithin 2 (some .boolean) 1 0 0 S_X5_isWithin := by
  refine Ct0_mk L_X5_isWithin [] (by decide +kernel) (by decide) ok_X5_isWithin (lk_X5_isWithin l) ?_
  intro nn as h K hP
  match as, hP with
  | [.int v, .int m], hK =>
  replace hK : (fun (K : Option Value → AH → Prop) => K (some (.int (b2i (inI v m)))) h) (fun v h' => K v (SHn nn) h') := hK
  dsimp only at hK
  refine ⟨by simp [slotsN, Value.category], fun J hJ => ?_⟩
  refine hJ 0 _ _ _ _ ?_
  simp only [z_X5_isWithin_0, u_X5_isWithin_0, u_X5_isWithin_13, u_X5_isWithin_14, j_X5_isWithin_13, j_X5_isWithin_14, ev_iload_n0, ev_if_lt, ev_iload_n1, ev_ic_gt, ev_iconst, ev_goto, ev_iret, ro_i, ro_z, capO_z, kb_6, kb_11, kb_13, kb_15, kb_17, kb_18, kb_19, kb_23, kb_24, kb_25, kb_26, kb_29, kb_31, kb_35, kb_37, kb_41, kb_43, kb_44, kb_61, kb_75, kb_104, kb_7, kb_8, kb_9, kb_10, kb_12, kb_16, kb_20, kb_21, kb_30, kb_32, kb_40, kb_48, kb_50, kb_57, kb_59, kb_60, kb_63, kb_70, kb_78, kb_81, kb_82, kb_84, kb_97, kb_99, kb_100, kb_101, kb_119, kb_120, kb_122, ki_m1, ki_0, ki_1, ki_2, ki_3, ki_4, ki_5, ki_6, ki_7, ki_8, ki_9, ki_10, ki_11, ki_12, ki_13, ki_14, ki_15, ki_16, ki_17, ki_18, ki_19, ki_20, ki_21, ki_22, ki_23, ki_24, ki_25, ki_26, ki_27, ki_28, ki_29, ki_30, ki_31, ki_32, ki_33, ki_34, ki_35, ki_36, ki_37, ki_38, ki_39, ki_40, ki_41, ki_42, ki_43, ki_44, ki_45, ki_46, ki_47, ki_48, ki_49, ki_50, ki_51, ki_52, ki_53, ki_54, ki_55, ki_56, ki_57, ki_58, ki_59, ki_60, ki_61, ki_62, ki_63, ks_m2000, ks_m1006, ks_m1005, ks_m1004, ks_m1003, ks_m1002, ks_m1000, ks_200, ks_201, ks_300, ks_720, ks_9000, ks_10000, ks_250, ks_255, ks_256, ks_320, ks_660, ks_999, ks_1000, ks_9999, ks_12345, ne_2, ne_10, t_0, t_40, t_41, t_42, t_43, t_44, t_45, t_46, t_47, r_0_0, r_0_1, r_0_2, r_0_4, r_0_5, r_0_6, r_0_7, r_40_0, r_40_5, r_44_0, r_44_1, t_1, t_14, t_27, t_2, t_15, t_28, t_64, Nat.reduceEqDiff, ne_eq, not_false_eq_true, false_implies, true_implies, implies_true, Nat.reduceAdd, Nat.reduceLeDiff, Nat.reduceLT, Nat.reduceMul, or_true, true_or, if_true, if_false, not_true_eq_false, and_self, bF, Nat.reduceBEq, Bool.false_and, Bool.and_false, Bool.or_self, Bool.or_false, Bool.false_or, Bool.false_eq_true, Int.reduceAdd, Bool.and_self, Bool.true_and, Bool.and_true, beq_self_eq_true, not_not_, i10_, i01_, List.length_nil, List.length_cons, true_and, and_true, false_and, and_false, kl_i, kl_a, kl_n, kl_l, tl_s, tl_n, rv_S, pd_0, pd_e, pd_r, pd_i, pd_l]
  unfold b2i at hK
  refine ⟨fun q => ?_, fun q => ⟨fun q2 => ?_, fun q2 => ?_⟩⟩
  · rw [if_neg (fun z => absurd z.1 (Int32.not_le.mpr q))] at hK; exact hK
  · rw [if_neg (fun z => absurd z.2 (Int32.not_le.mpr q2))] at hK; exact hK
  · rw [if_pos ⟨Int32.not_lt.mp q, Int32.not_lt.mp q2⟩] at hK; exact hK
def P_X5_isShelf : Sp0T := fun as h K => match as with
  | [.int v] => K (some (.int (b2i (inI v 7)))) h
  | _ => False
def S_X5_isShelf : SpT := lift P_X5_isShelf
def L_X5_isShelf_0 : List Item := (0, .iload_n 0, [], nS) :: (1, .bipush 7, [], nS) :: (3, .invokestatic 51, [0, 2, 0, 0], S_X5_isWithin) :: (6, .ireturn, [], nS) :: []
def L_X5_isShelf : List Item := L_X5_isShelf_0
theorem ok_X5_isShelf : okB cX5_isShelf L_X5_isShelf = true := by decide +kernel
theorem lk_X5_isShelf (l : Launch) : LKs l RX5 2 false L_X5_isShelf := ⟨trivial, trivial, Or.inl ⟨_, _, _, _, _, _, _, _, rfl, c_X5_isWithin l, yv_X5_isWithin, by decide, gT_of (List.mem_of_getElem? (i := 223) (by decide +kernel)) rfl⟩, trivial, trivial⟩
theorem b_X5_isShelf_0 : atL L_X5_isShelf 0 = L_X5_isShelf_0 := rfl
theorem yv_X5_isShelf : YS yX5_isShelf cX5_isShelf 1 (some .boolean) 1 := ⟨⟨gT_of (List.mem_of_getElem? (i := 222) (by decide +kernel)) rfl, gT_of (List.mem_of_getElem? (i := 26) (by decide +kernel)) rfl, ⟨by decide, by decide⟩, by decide +kernel, by decide⟩, gT_of (List.mem_of_getElem? (i := 221) (by decide +kernel)) rfl⟩
theorem u_X5_isShelf_0 : L_X5_isShelf_0 = (0, .iload_n 0, [], nS) :: (1, .bipush 7, [], nS) :: (3, .invokestatic 51, [0, 2, 0, 0], S_X5_isWithin) :: (6, .ireturn, [], nS) :: [] := nr rfl
theorem z_X5_isShelf_0 : atL L_X5_isShelf 0 = L_X5_isShelf_0 := nr rfl
theorem e_X5_isShelf {v : Int32} {h : AH} {K2 : Option Value → SpS → AH → Prop} : S_X5_isShelf (SHn nn) [.int v] h K2 = (fun (K : Option Value → AH → Prop) => K (some (.int (b2i (inI v 7)))) h) (fun v h' => K2 v (SHn nn) h') := (lift_e P_X5_isShelf [.int v] h K2).trans (nr rfl)
set_option maxRecDepth 100000 in
set_option maxHeartbeats 4000000 in
theorem c_X5_isShelf (l : Launch) : Ct l yX5_isShelf cX5_isShelf 1 (some .boolean) 2 0 0 S_X5_isShelf := by
  refine Ct0_mk L_X5_isShelf [] (by decide +kernel) (by decide) ok_X5_isShelf (lk_X5_isShelf l) ?_
  intro nn as h K hP
  match as, hP with
  | [.int v], hK =>
  replace hK : (fun (K : Option Value → AH → Prop) => K (some (.int (b2i (inI v 7)))) h) (fun v h' => K v (SHn nn) h') := hK
  dsimp only at hK
  refine ⟨by simp [slotsN, Value.category], fun J hJ => ?_⟩
  refine hJ 0 _ _ _ _ ?_
  simp only [z_X5_isShelf_0, u_X5_isShelf_0, ev_iload_n0, ev_bipush, ev_callS2, ev_iret, ro_i, ro_z, ↓e_X5_isWithin, capO_z, kb_6, kb_11, kb_13, kb_15, kb_17, kb_18, kb_19, kb_23, kb_24, kb_25, kb_26, kb_29, kb_31, kb_35, kb_37, kb_41, kb_43, kb_44, kb_61, kb_75, kb_104, kb_7, kb_8, kb_9, kb_10, kb_12, kb_16, kb_20, kb_21, kb_30, kb_32, kb_40, kb_48, kb_50, kb_57, kb_59, kb_60, kb_63, kb_70, kb_78, kb_81, kb_82, kb_84, kb_97, kb_99, kb_100, kb_101, kb_119, kb_120, kb_122, ki_m1, ki_0, ki_1, ki_2, ki_3, ki_4, ki_5, ki_6, ki_7, ki_8, ki_9, ki_10, ki_11, ki_12, ki_13, ki_14, ki_15, ki_16, ki_17, ki_18, ki_19, ki_20, ki_21, ki_22, ki_23, ki_24, ki_25, ki_26, ki_27, ki_28, ki_29, ki_30, ki_31, ki_32, ki_33, ki_34, ki_35, ki_36, ki_37, ki_38, ki_39, ki_40, ki_41, ki_42, ki_43, ki_44, ki_45, ki_46, ki_47, ki_48, ki_49, ki_50, ki_51, ki_52, ki_53, ki_54, ki_55, ki_56, ki_57, ki_58, ki_59, ki_60, ki_61, ki_62, ki_63, ks_m2000, ks_m1006, ks_m1005, ks_m1004, ks_m1003, ks_m1002, ks_m1000, ks_200, ks_201, ks_300, ks_720, ks_9000, ks_10000, ks_250, ks_255, ks_256, ks_320, ks_660, ks_999, ks_1000, ks_9999, ks_12345, ne_2, ne_10, t_0, t_40, t_41, t_42, t_43, t_44, t_45, t_46, t_47, r_0_0, r_0_1, r_0_2, r_0_4, r_0_5, r_0_6, r_0_7, r_40_0, r_40_5, r_44_0, r_44_1, t_1, t_14, t_27, t_2, t_15, t_28, t_64, Nat.reduceEqDiff, ne_eq, not_false_eq_true, false_implies, true_implies, implies_true, Nat.reduceAdd, Nat.reduceLeDiff, Nat.reduceLT, Nat.reduceMul, or_true, true_or, if_true, if_false, not_true_eq_false, and_self, bF, Nat.reduceBEq, Bool.false_and, Bool.and_false, Bool.or_self, Bool.or_false, Bool.false_or, Bool.false_eq_true, Int.reduceAdd, Bool.and_self, Bool.true_and, Bool.and_true, beq_self_eq_true, not_not_, i10_, i01_, List.length_nil, List.length_cons, true_and, and_true, false_and, and_false, kl_i, kl_a, kl_n, kl_l, tl_s, tl_n, rv_S, pd_0, pd_e, pd_r, pd_i, pd_l, b2i_01]
  exact hK
def P_X5_isKind : Sp0T := fun as h K => match as with
  | [.int v] => K (some (.int (b2i (inI v 5)))) h
  | _ => False
def S_X5_isKind : SpT := lift P_X5_isKind
def L_X5_isKind_0 : List Item := (0, .iload_n 0, [], nS) :: (1, .iconst 5, [], nS) :: (2, .invokestatic 51, [0, 2, 0, 0], S_X5_isWithin) :: (5, .ireturn, [], nS) :: []
def L_X5_isKind : List Item := L_X5_isKind_0
theorem ok_X5_isKind : okB cX5_isKind L_X5_isKind = true := by decide +kernel
theorem lk_X5_isKind (l : Launch) : LKs l RX5 2 false L_X5_isKind := ⟨trivial, trivial, Or.inl ⟨_, _, _, _, _, _, _, _, rfl, c_X5_isWithin l, yv_X5_isWithin, by decide, gT_of (List.mem_of_getElem? (i := 223) (by decide +kernel)) rfl⟩, trivial, trivial⟩
theorem b_X5_isKind_0 : atL L_X5_isKind 0 = L_X5_isKind_0 := rfl
theorem yv_X5_isKind : YS yX5_isKind cX5_isKind 1 (some .boolean) 1 := ⟨⟨gT_of (List.mem_of_getElem? (i := 677) (by decide +kernel)) rfl, gT_of (List.mem_of_getElem? (i := 26) (by decide +kernel)) rfl, ⟨by decide, by decide⟩, by decide +kernel, by decide⟩, gT_of (List.mem_of_getElem? (i := 676) (by decide +kernel)) rfl⟩
theorem u_X5_isKind_0 : L_X5_isKind_0 = (0, .iload_n 0, [], nS) :: (1, .iconst 5, [], nS) :: (2, .invokestatic 51, [0, 2, 0, 0], S_X5_isWithin) :: (5, .ireturn, [], nS) :: [] := nr rfl
theorem z_X5_isKind_0 : atL L_X5_isKind 0 = L_X5_isKind_0 := nr rfl
theorem e_X5_isKind {v : Int32} {h : AH} {K2 : Option Value → SpS → AH → Prop} : S_X5_isKind (SHn nn) [.int v] h K2 = (fun (K : Option Value → AH → Prop) => K (some (.int (b2i (inI v 5)))) h) (fun v h' => K2 v (SHn nn) h') := (lift_e P_X5_isKind [.int v] h K2).trans (nr rfl)
set_option maxRecDepth 100000 in
set_option maxHeartbeats 4000000 in
theorem c_X5_isKind (l : Launch) : Ct l yX5_isKind cX5_isKind 1 (some .boolean) 2 0 0 S_X5_isKind := by
  refine Ct0_mk L_X5_isKind [] (by decide +kernel) (by decide) ok_X5_isKind (lk_X5_isKind l) ?_
  intro nn as h K hP
  match as, hP with
  | [.int v], hK =>
  replace hK : (fun (K : Option Value → AH → Prop) => K (some (.int (b2i (inI v 5)))) h) (fun v h' => K v (SHn nn) h') := hK
  dsimp only at hK
  refine ⟨by simp [slotsN, Value.category], fun J hJ => ?_⟩
  refine hJ 0 _ _ _ _ ?_
  simp only [z_X5_isKind_0, u_X5_isKind_0, ev_iload_n0, ev_iconst, ev_callS2, ev_iret, ro_i, ro_z, ↓e_X5_isWithin, capO_z, kb_6, kb_11, kb_13, kb_15, kb_17, kb_18, kb_19, kb_23, kb_24, kb_25, kb_26, kb_29, kb_31, kb_35, kb_37, kb_41, kb_43, kb_44, kb_61, kb_75, kb_104, kb_7, kb_8, kb_9, kb_10, kb_12, kb_16, kb_20, kb_21, kb_30, kb_32, kb_40, kb_48, kb_50, kb_57, kb_59, kb_60, kb_63, kb_70, kb_78, kb_81, kb_82, kb_84, kb_97, kb_99, kb_100, kb_101, kb_119, kb_120, kb_122, ki_m1, ki_0, ki_1, ki_2, ki_3, ki_4, ki_5, ki_6, ki_7, ki_8, ki_9, ki_10, ki_11, ki_12, ki_13, ki_14, ki_15, ki_16, ki_17, ki_18, ki_19, ki_20, ki_21, ki_22, ki_23, ki_24, ki_25, ki_26, ki_27, ki_28, ki_29, ki_30, ki_31, ki_32, ki_33, ki_34, ki_35, ki_36, ki_37, ki_38, ki_39, ki_40, ki_41, ki_42, ki_43, ki_44, ki_45, ki_46, ki_47, ki_48, ki_49, ki_50, ki_51, ki_52, ki_53, ki_54, ki_55, ki_56, ki_57, ki_58, ki_59, ki_60, ki_61, ki_62, ki_63, ks_m2000, ks_m1006, ks_m1005, ks_m1004, ks_m1003, ks_m1002, ks_m1000, ks_200, ks_201, ks_300, ks_720, ks_9000, ks_10000, ks_250, ks_255, ks_256, ks_320, ks_660, ks_999, ks_1000, ks_9999, ks_12345, ne_2, ne_10, t_0, t_40, t_41, t_42, t_43, t_44, t_45, t_46, t_47, r_0_0, r_0_1, r_0_2, r_0_4, r_0_5, r_0_6, r_0_7, r_40_0, r_40_5, r_44_0, r_44_1, t_1, t_14, t_27, t_2, t_15, t_28, t_64, Nat.reduceEqDiff, ne_eq, not_false_eq_true, false_implies, true_implies, implies_true, Nat.reduceAdd, Nat.reduceLeDiff, Nat.reduceLT, Nat.reduceMul, or_true, true_or, if_true, if_false, not_true_eq_false, and_self, bF, Nat.reduceBEq, Bool.false_and, Bool.and_false, Bool.or_self, Bool.or_false, Bool.false_or, Bool.false_eq_true, Int.reduceAdd, Bool.and_self, Bool.true_and, Bool.and_true, beq_self_eq_true, not_not_, i10_, i01_, List.length_nil, List.length_cons, true_and, and_true, false_and, and_false, kl_i, kl_a, kl_n, kl_l, tl_s, tl_n, rv_S, pd_0, pd_e, pd_r, pd_i, pd_l, b2i_01]
  exact hK
def P_X5_isThing : Sp0T := fun as h K => match as with
  | [.int v] => K (some (.int (b2i (inI v 7)))) h
  | _ => False
def S_X5_isThing : SpT := lift P_X5_isThing
def L_X5_isThing_0 : List Item := (0, .iload_n 0, [], nS) :: (1, .bipush 7, [], nS) :: (3, .invokestatic 51, [0, 2, 0, 0], S_X5_isWithin) :: (6, .ireturn, [], nS) :: []
def L_X5_isThing : List Item := L_X5_isThing_0
theorem ok_X5_isThing : okB cX5_isThing L_X5_isThing = true := by decide +kernel
theorem lk_X5_isThing (l : Launch) : LKs l RX5 2 false L_X5_isThing := ⟨trivial, trivial, Or.inl ⟨_, _, _, _, _, _, _, _, rfl, c_X5_isWithin l, yv_X5_isWithin, by decide, gT_of (List.mem_of_getElem? (i := 223) (by decide +kernel)) rfl⟩, trivial, trivial⟩
theorem b_X5_isThing_0 : atL L_X5_isThing 0 = L_X5_isThing_0 := rfl
theorem yv_X5_isThing : YS yX5_isThing cX5_isThing 1 (some .boolean) 1 := ⟨⟨gT_of (List.mem_of_getElem? (i := 288) (by decide +kernel)) rfl, gT_of (List.mem_of_getElem? (i := 26) (by decide +kernel)) rfl, ⟨by decide, by decide⟩, by decide +kernel, by decide⟩, gT_of (List.mem_of_getElem? (i := 287) (by decide +kernel)) rfl⟩
theorem u_X5_isThing_0 : L_X5_isThing_0 = (0, .iload_n 0, [], nS) :: (1, .bipush 7, [], nS) :: (3, .invokestatic 51, [0, 2, 0, 0], S_X5_isWithin) :: (6, .ireturn, [], nS) :: [] := nr rfl
theorem z_X5_isThing_0 : atL L_X5_isThing 0 = L_X5_isThing_0 := nr rfl
theorem e_X5_isThing {v : Int32} {h : AH} {K2 : Option Value → SpS → AH → Prop} : S_X5_isThing (SHn nn) [.int v] h K2 = (fun (K : Option Value → AH → Prop) => K (some (.int (b2i (inI v 7)))) h) (fun v h' => K2 v (SHn nn) h') := (lift_e P_X5_isThing [.int v] h K2).trans (nr rfl)
set_option maxRecDepth 100000 in
set_option maxHeartbeats 4000000 in
theorem c_X5_isThing (l : Launch) : Ct l yX5_isThing cX5_isThing 1 (some .boolean) 2 0 0 S_X5_isThing := by
  refine Ct0_mk L_X5_isThing [] (by decide +kernel) (by decide) ok_X5_isThing (lk_X5_isThing l) ?_
  intro nn as h K hP
  match as, hP with
  | [.int v], hK =>
  replace hK : (fun (K : Option Value → AH → Prop) => K (some (.int (b2i (inI v 7)))) h) (fun v h' => K v (SHn nn) h') := hK
  dsimp only at hK
  refine ⟨by simp [slotsN, Value.category], fun J hJ => ?_⟩
  refine hJ 0 _ _ _ _ ?_
  simp only [z_X5_isThing_0, u_X5_isThing_0, ev_iload_n0, ev_bipush, ev_callS2, ev_iret, ro_i, ro_z, ↓e_X5_isWithin, capO_z, kb_6, kb_11, kb_13, kb_15, kb_17, kb_18, kb_19, kb_23, kb_24, kb_25, kb_26, kb_29, kb_31, kb_35, kb_37, kb_41, kb_43, kb_44, kb_61, kb_75, kb_104, kb_7, kb_8, kb_9, kb_10, kb_12, kb_16, kb_20, kb_21, kb_30, kb_32, kb_40, kb_48, kb_50, kb_57, kb_59, kb_60, kb_63, kb_70, kb_78, kb_81, kb_82, kb_84, kb_97, kb_99, kb_100, kb_101, kb_119, kb_120, kb_122, ki_m1, ki_0, ki_1, ki_2, ki_3, ki_4, ki_5, ki_6, ki_7, ki_8, ki_9, ki_10, ki_11, ki_12, ki_13, ki_14, ki_15, ki_16, ki_17, ki_18, ki_19, ki_20, ki_21, ki_22, ki_23, ki_24, ki_25, ki_26, ki_27, ki_28, ki_29, ki_30, ki_31, ki_32, ki_33, ki_34, ki_35, ki_36, ki_37, ki_38, ki_39, ki_40, ki_41, ki_42, ki_43, ki_44, ki_45, ki_46, ki_47, ki_48, ki_49, ki_50, ki_51, ki_52, ki_53, ki_54, ki_55, ki_56, ki_57, ki_58, ki_59, ki_60, ki_61, ki_62, ki_63, ks_m2000, ks_m1006, ks_m1005, ks_m1004, ks_m1003, ks_m1002, ks_m1000, ks_200, ks_201, ks_300, ks_720, ks_9000, ks_10000, ks_250, ks_255, ks_256, ks_320, ks_660, ks_999, ks_1000, ks_9999, ks_12345, ne_2, ne_10, t_0, t_40, t_41, t_42, t_43, t_44, t_45, t_46, t_47, r_0_0, r_0_1, r_0_2, r_0_4, r_0_5, r_0_6, r_0_7, r_40_0, r_40_5, r_44_0, r_44_1, t_1, t_14, t_27, t_2, t_15, t_28, t_64, Nat.reduceEqDiff, ne_eq, not_false_eq_true, false_implies, true_implies, implies_true, Nat.reduceAdd, Nat.reduceLeDiff, Nat.reduceLT, Nat.reduceMul, or_true, true_or, if_true, if_false, not_true_eq_false, and_self, bF, Nat.reduceBEq, Bool.false_and, Bool.and_false, Bool.or_self, Bool.or_false, Bool.false_or, Bool.false_eq_true, Int.reduceAdd, Bool.and_self, Bool.true_and, Bool.and_true, beq_self_eq_true, not_not_, i10_, i01_, List.length_nil, List.length_cons, true_and, and_true, false_and, and_false, kl_i, kl_a, kl_n, kl_l, tl_s, tl_n, rv_S, pd_0, pd_e, pd_r, pd_i, pd_l, b2i_01]
  exact hK
def P_X5_isHeir : Sp0T := fun as h K => match as with
  | [.ref x, .int v] => x = 0 ∧ K (some (.int (b2i (inI v (gI h 1 4 - 1))))) h
  | _ => False
def S_X5_isHeir : SpT := lift P_X5_isHeir
def L_X5_isHeir_0 : List Item := (0, .iload_n 1, [], nS) :: (1, .aload_n 0, [], nS) :: (2, .getfield 10, [5, 0, 1], nS) :: (5, .getfield 187, [0, 4, 0], nS) :: (8, .iconst 1, [], nS) :: (9, .isub, [], nS) :: (10, .invokestatic 51, [0, 2, 0, 0], S_X5_isWithin) :: (13, .ireturn, [], nS) :: []
def L_X5_isHeir : List Item := L_X5_isHeir_0
theorem ok_X5_isHeir : okB cX5_isHeir L_X5_isHeir = true := by decide +kernel
theorem lk_X5_isHeir (l : Launch) : LKs l RX5 2 false L_X5_isHeir := ⟨trivial, trivial, ⟨_, _, _, rfl, ⟨(RX5, TX5, 8), rfl, by decide, gT_of (List.mem_of_getElem? (i := 191) (by decide +kernel)) rfl⟩, rfl⟩, ⟨_, _, _, rfl, ⟨(RX0, TX0, 7), rfl, by decide, gT_of (List.mem_of_getElem? (i := 108) (by decide +kernel)) rfl⟩, rfl⟩, trivial, trivial, Or.inl ⟨_, _, _, _, _, _, _, _, rfl, c_X5_isWithin l, yv_X5_isWithin, by decide, gT_of (List.mem_of_getElem? (i := 223) (by decide +kernel)) rfl⟩, trivial, trivial⟩
theorem b_X5_isHeir_0 : atL L_X5_isHeir 0 = L_X5_isHeir_0 := rfl
theorem yv_X5_isHeir : YV yX5_isHeir cX5_isHeir 2 (some .boolean) 1 5 := ⟨⟨gT_of (List.mem_of_getElem? (i := 269) (by decide +kernel)) rfl, gT_of (List.mem_of_getElem? (i := 26) (by decide +kernel)) rfl, ⟨by decide, by decide⟩, by decide +kernel, by decide⟩, gT_of (List.mem_of_getElem? (i := 268) (by decide +kernel)) rfl, gT_of (List.mem_of_getElem? (i := 3) (by decide +kernel)) rfl, rfl⟩
theorem u_X5_isHeir_0 : L_X5_isHeir_0 = (0, .iload_n 1, [], nS) :: (1, .aload_n 0, [], nS) :: (2, .getfield 10, [5, 0, 1], nS) :: (5, .getfield 187, [0, 4, 0], nS) :: (8, .iconst 1, [], nS) :: (9, .isub, [], nS) :: (10, .invokestatic 51, [0, 2, 0, 0], S_X5_isWithin) :: (13, .ireturn, [], nS) :: [] := nr rfl
theorem z_X5_isHeir_0 : atL L_X5_isHeir 0 = L_X5_isHeir_0 := nr rfl
theorem e_X5_isHeir {x : Addr} {v : Int32} {h : AH} {K2 : Option Value → SpS → AH → Prop} : S_X5_isHeir (SHn nn) [.ref x, .int v] h K2 = (fun (K : Option Value → AH → Prop) => x = 0 ∧ K (some (.int (b2i (inI v (gI h 1 4 - 1))))) h) (fun v h' => K2 v (SHn nn) h') := (lift_e P_X5_isHeir [.ref x, .int v] h K2).trans (nr rfl)
set_option maxRecDepth 100000 in
set_option maxHeartbeats 4000000 in
theorem c_X5_isHeir (l : Launch) : Ct l yX5_isHeir cX5_isHeir 2 (some .boolean) 2 0 0 S_X5_isHeir := by
  refine Ct0_mk L_X5_isHeir [] (by decide +kernel) (by decide) ok_X5_isHeir (lk_X5_isHeir l) ?_
  intro nn as h K hP
  match as, hP with
  | [.ref x, .int v], ⟨hx, hK⟩ =>
  refine ⟨by simp [slotsN, Value.category], fun J hJ => ?_⟩
  subst hx
  refine hJ 0 _ _ _ _ ?_
  simp only [z_X5_isHeir_0, u_X5_isHeir_0, ev_iload_n1, ev_aload_n0, ev_getfR, ev_getfI, ev_iconst, ev_isub, ev_callS2, ev_iret, ro_i, ro_z, ↓e_X5_isWithin, capO_z, kb_6, kb_11, kb_13, kb_15, kb_17, kb_18, kb_19, kb_23, kb_24, kb_25, kb_26, kb_29, kb_31, kb_35, kb_37, kb_41, kb_43, kb_44, kb_61, kb_75, kb_104, kb_7, kb_8, kb_9, kb_10, kb_12, kb_16, kb_20, kb_21, kb_30, kb_32, kb_40, kb_48, kb_50, kb_57, kb_59, kb_60, kb_63, kb_70, kb_78, kb_81, kb_82, kb_84, kb_97, kb_99, kb_100, kb_101, kb_119, kb_120, kb_122, ki_m1, ki_0, ki_1, ki_2, ki_3, ki_4, ki_5, ki_6, ki_7, ki_8, ki_9, ki_10, ki_11, ki_12, ki_13, ki_14, ki_15, ki_16, ki_17, ki_18, ki_19, ki_20, ki_21, ki_22, ki_23, ki_24, ki_25, ki_26, ki_27, ki_28, ki_29, ki_30, ki_31, ki_32, ki_33, ki_34, ki_35, ki_36, ki_37, ki_38, ki_39, ki_40, ki_41, ki_42, ki_43, ki_44, ki_45, ki_46, ki_47, ki_48, ki_49, ki_50, ki_51, ki_52, ki_53, ki_54, ki_55, ki_56, ki_57, ki_58, ki_59, ki_60, ki_61, ki_62, ki_63, ks_m2000, ks_m1006, ks_m1005, ks_m1004, ks_m1003, ks_m1002, ks_m1000, ks_200, ks_201, ks_300, ks_720, ks_9000, ks_10000, ks_250, ks_255, ks_256, ks_320, ks_660, ks_999, ks_1000, ks_9999, ks_12345, ne_2, ne_10, t_0, t_40, t_41, t_42, t_43, t_44, t_45, t_46, t_47, r_0_0, r_0_1, r_0_2, r_0_4, r_0_5, r_0_6, r_0_7, r_40_0, r_40_5, r_44_0, r_44_1, t_1, t_14, t_27, t_2, t_15, t_28, t_64, Nat.reduceEqDiff, ne_eq, not_false_eq_true, false_implies, true_implies, implies_true, Nat.reduceAdd, Nat.reduceLeDiff, Nat.reduceLT, Nat.reduceMul, or_true, true_or, if_true, if_false, not_true_eq_false, and_self, bF, Nat.reduceBEq, Bool.false_and, Bool.and_false, Bool.or_self, Bool.or_false, Bool.false_or, Bool.false_eq_true, Int.reduceAdd, Bool.and_self, Bool.true_and, Bool.and_true, beq_self_eq_true, not_not_, i10_, i01_, List.length_nil, List.length_cons, true_and, and_true, false_and, and_false, kl_i, kl_a, kl_n, kl_l, tl_s, tl_n, rv_S, pd_0, pd_e, pd_r, pd_i, pd_l, b2i_01]
  exact hK
def P_X5_isHeirOrNone : Sp0T := fun as h K => match as with
  | [.ref x, .int v] => x = 0 ∧ K (some (.int (b2i (v = -1 ∨ inI v (gI h 1 4 - 1))))) h
  | _ => False
def S_X5_isHeirOrNone : SpT := lift P_X5_isHeirOrNone
def L_X5_isHeirOrNone_18 : List Item := (18, .ireturn, [], nS) :: []
def L_X5_isHeirOrNone_17 : List Item := (17, .iconst 0, [], nS) :: L_X5_isHeirOrNone_18
def L_X5_isHeirOrNone_13 : List Item := (13, .iconst 1, [], nS) :: (14, .goto 4, [18], nS) :: L_X5_isHeirOrNone_17
def L_X5_isHeirOrNone_0 : List Item := (0, .iload_n 1, [], nS) :: (1, .iconst (-1), [], nS) :: (2, .if_icmp .eq 11, [13], nS) :: (5, .aload_n 0, [], nS) :: (6, .iload_n 1, [], nS) :: (7, .invokevirtual 114, [1, 5, 0, 0], S_X5_isHeir) :: (10, .ifCond .eq 7, [17], nS) :: L_X5_isHeirOrNone_13
def L_X5_isHeirOrNone : List Item := L_X5_isHeirOrNone_0
theorem ok_X5_isHeirOrNone : okB cX5_isHeirOrNone L_X5_isHeirOrNone = true := by decide +kernel
theorem lk_X5_isHeirOrNone (l : Launch) : LKs l RX5 3 false L_X5_isHeirOrNone := ⟨trivial, trivial, trivial, trivial, trivial, ⟨_, _, _, _, _, _, _, _, _, rfl, c_X5_isHeir l, Or.inl ⟨by decide, yv_X5_isHeir⟩, by decide, gT_of (List.mem_of_getElem? (i := 266) (by decide +kernel)) rfl⟩, trivial, trivial, trivial, trivial, trivial, trivial⟩
theorem b_X5_isHeirOrNone_0 : atL L_X5_isHeirOrNone 0 = L_X5_isHeirOrNone_0 := rfl
theorem b_X5_isHeirOrNone_13 : atL L_X5_isHeirOrNone 13 = L_X5_isHeirOrNone_13 := rfl
theorem b_X5_isHeirOrNone_17 : atL L_X5_isHeirOrNone 17 = L_X5_isHeirOrNone_17 := rfl
theorem b_X5_isHeirOrNone_18 : atL L_X5_isHeirOrNone 18 = L_X5_isHeirOrNone_18 := rfl
theorem a_X5_isHeirOrNone_13 : afw L_X5_isHeirOrNone [] 13 = L_X5_isHeirOrNone_13 := rfl
theorem a_X5_isHeirOrNone_17 : afw L_X5_isHeirOrNone [] 17 = L_X5_isHeirOrNone_17 := rfl
theorem a_X5_isHeirOrNone_18 : afw L_X5_isHeirOrNone [] 18 = L_X5_isHeirOrNone_18 := rfl
theorem yv_X5_isHeirOrNone : YV yX5_isHeirOrNone cX5_isHeirOrNone 2 (some .boolean) 1 5 := ⟨⟨gT_of (List.mem_of_getElem? (i := 265) (by decide +kernel)) rfl, gT_of (List.mem_of_getElem? (i := 26) (by decide +kernel)) rfl, ⟨by decide, by decide⟩, by decide +kernel, by decide⟩, gT_of (List.mem_of_getElem? (i := 264) (by decide +kernel)) rfl, gT_of (List.mem_of_getElem? (i := 2) (by decide +kernel)) rfl, rfl⟩
theorem u_X5_isHeirOrNone_0 : L_X5_isHeirOrNone_0 = (0, .iload_n 1, [], nS) :: (1, .iconst (-1), [], nS) :: (2, .if_icmp .eq 11, [13], nS) :: (5, .aload_n 0, [], nS) :: (6, .iload_n 1, [], nS) :: (7, .invokevirtual 114, [1, 5, 0, 0], S_X5_isHeir) :: (10, .ifCond .eq 7, [17], nS) :: L_X5_isHeirOrNone_13 := nr rfl
theorem u_X5_isHeirOrNone_13 : L_X5_isHeirOrNone_13 = (13, .iconst 1, [], nS) :: (14, .goto 4, [18], nS) :: L_X5_isHeirOrNone_17 := nr rfl
theorem u_X5_isHeirOrNone_17 : L_X5_isHeirOrNone_17 = (17, .iconst 0, [], nS) :: L_X5_isHeirOrNone_18 := nr rfl
theorem u_X5_isHeirOrNone_18 : L_X5_isHeirOrNone_18 = (18, .ireturn, [], nS) :: [] := nr rfl
theorem z_X5_isHeirOrNone_0 : atL L_X5_isHeirOrNone 0 = L_X5_isHeirOrNone_0 := nr rfl
theorem z_X5_isHeirOrNone_13 : atL L_X5_isHeirOrNone 13 = L_X5_isHeirOrNone_13 := nr rfl
theorem z_X5_isHeirOrNone_17 : atL L_X5_isHeirOrNone 17 = L_X5_isHeirOrNone_17 := nr rfl
theorem z_X5_isHeirOrNone_18 : atL L_X5_isHeirOrNone 18 = L_X5_isHeirOrNone_18 := nr rfl
theorem j_X5_isHeirOrNone_13 {G : List Item → SpS → List Value → List Value → AH → Prop} {J : Nat → SpS → List Value → List Value → AH → Prop} {S : SpS} {lv st : List Value} {h : AH} : jmp G J (afw L_X5_isHeirOrNone [] 13) 13 S lv st h = G L_X5_isHeirOrNone_13 S lv st h := nr rfl
theorem j_X5_isHeirOrNone_17 {G : List Item → SpS → List Value → List Value → AH → Prop} {J : Nat → SpS → List Value → List Value → AH → Prop} {S : SpS} {lv st : List Value} {h : AH} : jmp G J (afw L_X5_isHeirOrNone [] 17) 17 S lv st h = G L_X5_isHeirOrNone_17 S lv st h := nr rfl
theorem j_X5_isHeirOrNone_18 {G : List Item → SpS → List Value → List Value → AH → Prop} {J : Nat → SpS → List Value → List Value → AH → Prop} {S : SpS} {lv st : List Value} {h : AH} : jmp G J (afw L_X5_isHeirOrNone [] 18) 18 S lv st h = G L_X5_isHeirOrNone_18 S lv st h := nr rfl
theorem e_X5_isHeirOrNone {x : Addr} {v : Int32} {h : AH} {K2 : Option Value → SpS → AH → Prop} : S_X5_isHeirOrNone (SHn nn) [.ref x, .int v] h K2 = (fun (K : Option Value → AH → Prop) => x = 0 ∧ K (some (.int (b2i (v = -1 ∨ inI v (gI h 1 4 - 1))))) h) (fun v h' => K2 v (SHn nn) h') := (lift_e P_X5_isHeirOrNone [.ref x, .int v] h K2).trans (nr rfl)
set_option maxRecDepth 100000 in
set_option maxHeartbeats 4000000 in
theorem c_X5_isHeirOrNone (l : Launch) : Ct l yX5_isHeirOrNone cX5_isHeirOrNone 2 (some .boolean) 3 0 0 S_X5_isHeirOrNone := by
  refine Ct0_mk L_X5_isHeirOrNone [] (by decide +kernel) (by decide) ok_X5_isHeirOrNone (lk_X5_isHeirOrNone l) ?_
  intro nn as h K hP
  match as, hP with
  | [.ref x, .int v], ⟨hx, hK⟩ =>
  refine ⟨by simp [slotsN, Value.category], fun J hJ => ?_⟩
  subst hx
  refine hJ 0 _ _ _ _ ?_
  simp only [z_X5_isHeirOrNone_0, u_X5_isHeirOrNone_0, u_X5_isHeirOrNone_13, u_X5_isHeirOrNone_17, u_X5_isHeirOrNone_18, j_X5_isHeirOrNone_13, j_X5_isHeirOrNone_17, j_X5_isHeirOrNone_18, ev_iload_n1, ev_iconst, ev_ic_eq, ev_aload_n0, ev_callV1, ev_if_eq, ev_goto, ev_iret, ro_i, ro_z, ↓e_X5_isHeir, capO_z, kb_6, kb_11, kb_13, kb_15, kb_17, kb_18, kb_19, kb_23, kb_24, kb_25, kb_26, kb_29, kb_31, kb_35, kb_37, kb_41, kb_43, kb_44, kb_61, kb_75, kb_104, kb_7, kb_8, kb_9, kb_10, kb_12, kb_16, kb_20, kb_21, kb_30, kb_32, kb_40, kb_48, kb_50, kb_57, kb_59, kb_60, kb_63, kb_70, kb_78, kb_81, kb_82, kb_84, kb_97, kb_99, kb_100, kb_101, kb_119, kb_120, kb_122, ki_m1, ki_0, ki_1, ki_2, ki_3, ki_4, ki_5, ki_6, ki_7, ki_8, ki_9, ki_10, ki_11, ki_12, ki_13, ki_14, ki_15, ki_16, ki_17, ki_18, ki_19, ki_20, ki_21, ki_22, ki_23, ki_24, ki_25, ki_26, ki_27, ki_28, ki_29, ki_30, ki_31, ki_32, ki_33, ki_34, ki_35, ki_36, ki_37, ki_38, ki_39, ki_40, ki_41, ki_42, ki_43, ki_44, ki_45, ki_46, ki_47, ki_48, ki_49, ki_50, ki_51, ki_52, ki_53, ki_54, ki_55, ki_56, ki_57, ki_58, ki_59, ki_60, ki_61, ki_62, ki_63, ks_m2000, ks_m1006, ks_m1005, ks_m1004, ks_m1003, ks_m1002, ks_m1000, ks_200, ks_201, ks_300, ks_720, ks_9000, ks_10000, ks_250, ks_255, ks_256, ks_320, ks_660, ks_999, ks_1000, ks_9999, ks_12345, ne_2, ne_10, t_0, t_40, t_41, t_42, t_43, t_44, t_45, t_46, t_47, r_0_0, r_0_1, r_0_2, r_0_4, r_0_5, r_0_6, r_0_7, r_40_0, r_40_5, r_44_0, r_44_1, t_1, t_14, t_27, t_2, t_15, t_28, t_64, Nat.reduceEqDiff, ne_eq, not_false_eq_true, false_implies, true_implies, implies_true, Nat.reduceAdd, Nat.reduceLeDiff, Nat.reduceLT, Nat.reduceMul, or_true, true_or, if_true, if_false, not_true_eq_false, and_self, bF, Nat.reduceBEq, Bool.false_and, Bool.and_false, Bool.or_self, Bool.or_false, Bool.false_or, Bool.false_eq_true, Int.reduceAdd, Bool.and_self, Bool.true_and, Bool.and_true, beq_self_eq_true, not_not_, i10_, i01_, List.length_nil, List.length_cons, true_and, and_true, false_and, and_false, kl_i, kl_a, kl_n, kl_l, tl_s, tl_n, rv_S, pd_0, pd_e, pd_r, pd_i, pd_l, b2i_01, b2i_0]
  unfold b2i at hK
  refine ⟨fun q => ?_, fun q => ⟨fun q2 => ?_, fun q2 => ?_⟩⟩
  · rw [if_pos (Or.inl q)] at hK; exact hK
  · rw [if_neg (fun z => z.elim q q2)] at hK; exact hK
  · rw [if_pos (Or.inr q2)] at hK; exact hK
def P_X5_isBeyond : Sp0T := fun as h K => match as with
  | [.int a, .int d, .int w] => K (some (.int (b2i (if w = 0 then d < a else a < d)))) h
  | _ => False
def S_X5_isBeyond : SpT := lift P_X5_isBeyond
def L_X5_isBeyond_27 : List Item := (27, .ireturn, [], nS) :: []
def L_X5_isBeyond_26 : List Item := (26, .iconst 0, [], nS) :: L_X5_isBeyond_27
def L_X5_isBeyond_17 : List Item := (17, .iload_n 0, [], nS) :: (18, .iload_n 1, [], nS) :: (19, .if_icmp .ge 7, [26], nS) :: (22, .iconst 1, [], nS) :: (23, .goto 4, [27], nS) :: L_X5_isBeyond_26
def L_X5_isBeyond_13 : List Item := (13, .iconst 0, [], nS) :: (14, .goto 13, [27], nS) :: L_X5_isBeyond_17
def L_X5_isBeyond_0 : List Item := (0, .iload_n 2, [], nS) :: (1, .ifCond .ne 16, [17], nS) :: (4, .iload_n 0, [], nS) :: (5, .iload_n 1, [], nS) :: (6, .if_icmp .le 7, [13], nS) :: (9, .iconst 1, [], nS) :: (10, .goto 17, [27], nS) :: L_X5_isBeyond_13
def L_X5_isBeyond : List Item := L_X5_isBeyond_0
theorem ok_X5_isBeyond : okB cX5_isBeyond L_X5_isBeyond = true := by decide +kernel
theorem lk_X5_isBeyond (l : Launch) : LKs l RX5 1 false L_X5_isBeyond := ⟨trivial, trivial, trivial, trivial, trivial, trivial, trivial, trivial, trivial, trivial, trivial, trivial, trivial, trivial, trivial, trivial, trivial⟩
theorem b_X5_isBeyond_0 : atL L_X5_isBeyond 0 = L_X5_isBeyond_0 := rfl
theorem b_X5_isBeyond_13 : atL L_X5_isBeyond 13 = L_X5_isBeyond_13 := rfl
theorem b_X5_isBeyond_17 : atL L_X5_isBeyond 17 = L_X5_isBeyond_17 := rfl
theorem b_X5_isBeyond_26 : atL L_X5_isBeyond 26 = L_X5_isBeyond_26 := rfl
theorem b_X5_isBeyond_27 : atL L_X5_isBeyond 27 = L_X5_isBeyond_27 := rfl
theorem a_X5_isBeyond_13 : afw L_X5_isBeyond [] 13 = L_X5_isBeyond_13 := rfl
theorem a_X5_isBeyond_17 : afw L_X5_isBeyond [] 17 = L_X5_isBeyond_17 := rfl
theorem a_X5_isBeyond_26 : afw L_X5_isBeyond [] 26 = L_X5_isBeyond_26 := rfl
theorem a_X5_isBeyond_27 : afw L_X5_isBeyond [] 27 = L_X5_isBeyond_27 := rfl
theorem yv_X5_isBeyond : YS yX5_isBeyond cX5_isBeyond 3 (some .boolean) 3 := ⟨⟨gT_of (List.mem_of_getElem? (i := 795) (by decide +kernel)) rfl, gT_of (List.mem_of_getElem? (i := 26) (by decide +kernel)) rfl, ⟨by decide, by decide⟩, by decide +kernel, by decide⟩, gT_of (List.mem_of_getElem? (i := 794) (by decide +kernel)) rfl⟩
theorem u_X5_isBeyond_0 : L_X5_isBeyond_0 = (0, .iload_n 2, [], nS) :: (1, .ifCond .ne 16, [17], nS) :: (4, .iload_n 0, [], nS) :: (5, .iload_n 1, [], nS) :: (6, .if_icmp .le 7, [13], nS) :: (9, .iconst 1, [], nS) :: (10, .goto 17, [27], nS) :: L_X5_isBeyond_13 := nr rfl
theorem u_X5_isBeyond_13 : L_X5_isBeyond_13 = (13, .iconst 0, [], nS) :: (14, .goto 13, [27], nS) :: L_X5_isBeyond_17 := nr rfl
theorem u_X5_isBeyond_17 : L_X5_isBeyond_17 = (17, .iload_n 0, [], nS) :: (18, .iload_n 1, [], nS) :: (19, .if_icmp .ge 7, [26], nS) :: (22, .iconst 1, [], nS) :: (23, .goto 4, [27], nS) :: L_X5_isBeyond_26 := nr rfl
theorem u_X5_isBeyond_26 : L_X5_isBeyond_26 = (26, .iconst 0, [], nS) :: L_X5_isBeyond_27 := nr rfl
theorem u_X5_isBeyond_27 : L_X5_isBeyond_27 = (27, .ireturn, [], nS) :: [] := nr rfl
theorem z_X5_isBeyond_0 : atL L_X5_isBeyond 0 = L_X5_isBeyond_0 := nr rfl
theorem z_X5_isBeyond_13 : atL L_X5_isBeyond 13 = L_X5_isBeyond_13 := nr rfl
theorem z_X5_isBeyond_17 : atL L_X5_isBeyond 17 = L_X5_isBeyond_17 := nr rfl
theorem z_X5_isBeyond_26 : atL L_X5_isBeyond 26 = L_X5_isBeyond_26 := nr rfl
theorem z_X5_isBeyond_27 : atL L_X5_isBeyond 27 = L_X5_isBeyond_27 := nr rfl
theorem j_X5_isBeyond_13 {G : List Item → SpS → List Value → List Value → AH → Prop} {J : Nat → SpS → List Value → List Value → AH → Prop} {S : SpS} {lv st : List Value} {h : AH} : jmp G J (afw L_X5_isBeyond [] 13) 13 S lv st h = G L_X5_isBeyond_13 S lv st h := nr rfl
theorem j_X5_isBeyond_17 {G : List Item → SpS → List Value → List Value → AH → Prop} {J : Nat → SpS → List Value → List Value → AH → Prop} {S : SpS} {lv st : List Value} {h : AH} : jmp G J (afw L_X5_isBeyond [] 17) 17 S lv st h = G L_X5_isBeyond_17 S lv st h := nr rfl
theorem j_X5_isBeyond_26 {G : List Item → SpS → List Value → List Value → AH → Prop} {J : Nat → SpS → List Value → List Value → AH → Prop} {S : SpS} {lv st : List Value} {h : AH} : jmp G J (afw L_X5_isBeyond [] 26) 26 S lv st h = G L_X5_isBeyond_26 S lv st h := nr rfl
theorem j_X5_isBeyond_27 {G : List Item → SpS → List Value → List Value → AH → Prop} {J : Nat → SpS → List Value → List Value → AH → Prop} {S : SpS} {lv st : List Value} {h : AH} : jmp G J (afw L_X5_isBeyond [] 27) 27 S lv st h = G L_X5_isBeyond_27 S lv st h := nr rfl
theorem e_X5_isBeyond {a : Int32} {d : Int32} {w : Int32} {h : AH} {K2 : Option Value → SpS → AH → Prop} : S_X5_isBeyond (SHn nn) [.int a, .int d, .int w] h K2 = (fun (K : Option Value → AH → Prop) => K (some (.int (b2i (if w = 0 then d < a else a < d)))) h) (fun v h' => K2 v (SHn nn) h') := (lift_e P_X5_isBeyond [.int a, .int d, .int w] h K2).trans (nr rfl)
set_option maxRecDepth 100000 in
set_option maxHeartbeats 4000000 in
theorem c_X5_isBeyond (l : Launch) : Ct l yX5_isBeyond cX5_isBeyond 3 (some .boolean) 1 0 0 S_X5_isBeyond := by
  refine Ct0_mk L_X5_isBeyond [] (by decide +kernel) (by decide) ok_X5_isBeyond (lk_X5_isBeyond l) ?_
  intro nn as h K hP
  match as, hP with
  | [.int a, .int d, .int w], hK =>
  replace hK : (fun (K : Option Value → AH → Prop) => K (some (.int (b2i (if w = 0 then d < a else a < d)))) h) (fun v h' => K v (SHn nn) h') := hK
  dsimp only at hK
  refine ⟨by simp [slotsN, Value.category], fun J hJ => ?_⟩
  refine hJ 0 _ _ _ _ ?_
  simp only [z_X5_isBeyond_0, u_X5_isBeyond_0, u_X5_isBeyond_13, u_X5_isBeyond_17, u_X5_isBeyond_26, u_X5_isBeyond_27, j_X5_isBeyond_13, j_X5_isBeyond_17, j_X5_isBeyond_26, j_X5_isBeyond_27, ev_iload_n2, ev_if_ne, ev_iload_n0, ev_iload_n1, ev_ic_le, ev_iconst, ev_goto, ev_ic_ge, ev_iret, ro_i, ro_z, capO_z, kb_6, kb_11, kb_13, kb_15, kb_17, kb_18, kb_19, kb_23, kb_24, kb_25, kb_26, kb_29, kb_31, kb_35, kb_37, kb_41, kb_43, kb_44, kb_61, kb_75, kb_104, kb_7, kb_8, kb_9, kb_10, kb_12, kb_16, kb_20, kb_21, kb_30, kb_32, kb_40, kb_48, kb_50, kb_57, kb_59, kb_60, kb_63, kb_70, kb_78, kb_81, kb_82, kb_84, kb_97, kb_99, kb_100, kb_101, kb_119, kb_120, kb_122, ki_m1, ki_0, ki_1, ki_2, ki_3, ki_4, ki_5, ki_6, ki_7, ki_8, ki_9, ki_10, ki_11, ki_12, ki_13, ki_14, ki_15, ki_16, ki_17, ki_18, ki_19, ki_20, ki_21, ki_22, ki_23, ki_24, ki_25, ki_26, ki_27, ki_28, ki_29, ki_30, ki_31, ki_32, ki_33, ki_34, ki_35, ki_36, ki_37, ki_38, ki_39, ki_40, ki_41, ki_42, ki_43, ki_44, ki_45, ki_46, ki_47, ki_48, ki_49, ki_50, ki_51, ki_52, ki_53, ki_54, ki_55, ki_56, ki_57, ki_58, ki_59, ki_60, ki_61, ki_62, ki_63, ks_m2000, ks_m1006, ks_m1005, ks_m1004, ks_m1003, ks_m1002, ks_m1000, ks_200, ks_201, ks_300, ks_720, ks_9000, ks_10000, ks_250, ks_255, ks_256, ks_320, ks_660, ks_999, ks_1000, ks_9999, ks_12345, ne_2, ne_10, t_0, t_40, t_41, t_42, t_43, t_44, t_45, t_46, t_47, r_0_0, r_0_1, r_0_2, r_0_4, r_0_5, r_0_6, r_0_7, r_40_0, r_40_5, r_44_0, r_44_1, t_1, t_14, t_27, t_2, t_15, t_28, t_64, Nat.reduceEqDiff, ne_eq, not_false_eq_true, false_implies, true_implies, implies_true, Nat.reduceAdd, Nat.reduceLeDiff, Nat.reduceLT, Nat.reduceMul, or_true, true_or, if_true, if_false, not_true_eq_false, and_self, bF, Nat.reduceBEq, Bool.false_and, Bool.and_false, Bool.or_self, Bool.or_false, Bool.false_or, Bool.false_eq_true, Int.reduceAdd, Bool.and_self, Bool.true_and, Bool.and_true, beq_self_eq_true, not_not_, i10_, i01_, List.length_nil, List.length_cons, true_and, and_true, false_and, and_false, kl_i, kl_a, kl_n, kl_l, tl_s, tl_n, rv_S, pd_0, pd_e, pd_r, pd_i, pd_l]
  unfold b2i at hK
  refine ⟨fun q => ⟨fun q2 => ?_, fun q2 => ?_⟩, fun q => ⟨fun q2 => ?_, fun q2 => ?_⟩⟩
  · rw [if_neg (by rw [if_neg q]; exact Int32.not_lt.mpr q2)] at hK; exact hK
  · rw [if_pos (by rw [if_neg q]; exact Int32.not_le.mp q2)] at hK; exact hK
  · rw [if_neg (by rw [if_pos q]; exact Int32.not_lt.mpr q2)] at hK; exact hK
  · rw [if_pos (by rw [if_pos q]; exact Int32.not_le.mp q2)] at hK; exact hK
theorem vp_of {v : Int32} {p n : Nat} (e : v = nI p) (hp : p < n) (hn : n < 2147483648) : vp_in v n = True := by rw [e]; exact vpN hp hn
def P_X5_refuse : Sp0T := fun as h K => match as with
  | [.ref x, .int c] => x = 0 ∧ isCode c ∧ K (some (.int c)) (refH h c)
  | _ => False
def S_X5_refuse : SpT := lift P_X5_refuse
def L_X5_refuse_24 : List Item := (24, .iload_n 1, [], nS) :: (25, .ireturn, [], nS) :: []
def L_X5_refuse_0 : List Item := (0, .sipush (-1002), [], nS) :: (3, .iload_n 1, [], nS) :: (4, .isub, [], nS) :: (5, .istore_n 2, [], nS) :: (6, .iload_n 2, [], nS) :: (7, .iconst 4, [], nS) :: (8, .invokestatic 51, [0, 2, 0, 0], S_X5_isWithin) :: (11, .ifCond .eq 13, [24], nS) :: (14, .aload_n 0, [], nS) :: (15, .getfield 42, [5, 7, 1], nS) :: (18, .iload_n 2, [], nS) :: (19, .dup2, [], nS) :: (20, .iaload, [], nS) :: (21, .iconst 1, [], nS) :: (22, .iadd, [], nS) :: (23, .iastore, [], nS) :: L_X5_refuse_24
def L_X5_refuse : List Item := L_X5_refuse_0
theorem ok_X5_refuse : okB cX5_refuse L_X5_refuse = true := by decide +kernel
theorem lk_X5_refuse (l : Launch) : LKs l RX5 2 false L_X5_refuse := ⟨trivial, trivial, trivial, trivial, trivial, trivial, Or.inl ⟨_, _, _, _, _, _, _, _, rfl, c_X5_isWithin l, yv_X5_isWithin, by decide, gT_of (List.mem_of_getElem? (i := 223) (by decide +kernel)) rfl⟩, trivial, trivial, ⟨_, _, _, rfl, ⟨(RX5, TX5, 8), rfl, by decide, gT_of (List.mem_of_getElem? (i := 198) (by decide +kernel)) rfl⟩, rfl⟩, trivial, trivial, trivial, trivial, trivial, trivial, trivial, trivial, trivial⟩
theorem b_X5_refuse_0 : atL L_X5_refuse 0 = L_X5_refuse_0 := rfl
theorem b_X5_refuse_24 : atL L_X5_refuse 24 = L_X5_refuse_24 := rfl
theorem a_X5_refuse_24 : afw L_X5_refuse [] 24 = L_X5_refuse_24 := rfl
theorem yv_X5_refuse : YV yX5_refuse cX5_refuse 3 (some .int) 1 5 := ⟨⟨gT_of (List.mem_of_getElem? (i := 229) (by decide +kernel)) rfl, gT_of (List.mem_of_getElem? (i := 26) (by decide +kernel)) rfl, ⟨by decide, by decide⟩, by decide +kernel, by decide⟩, gT_of (List.mem_of_getElem? (i := 228) (by decide +kernel)) rfl, gT_of (List.mem_of_getElem? (i := 0) (by decide +kernel)) rfl, rfl⟩
theorem u_X5_refuse_0 : L_X5_refuse_0 = (0, .sipush (-1002), [], nS) :: (3, .iload_n 1, [], nS) :: (4, .isub, [], nS) :: (5, .istore_n 2, [], nS) :: (6, .iload_n 2, [], nS) :: (7, .iconst 4, [], nS) :: (8, .invokestatic 51, [0, 2, 0, 0], S_X5_isWithin) :: (11, .ifCond .eq 13, [24], nS) :: (14, .aload_n 0, [], nS) :: (15, .getfield 42, [5, 7, 1], nS) :: (18, .iload_n 2, [], nS) :: (19, .dup2, [], nS) :: (20, .iaload, [], nS) :: (21, .iconst 1, [], nS) :: (22, .iadd, [], nS) :: (23, .iastore, [], nS) :: L_X5_refuse_24 := nr rfl
theorem u_X5_refuse_24 : L_X5_refuse_24 = (24, .iload_n 1, [], nS) :: (25, .ireturn, [], nS) :: [] := nr rfl
theorem z_X5_refuse_0 : atL L_X5_refuse 0 = L_X5_refuse_0 := nr rfl
theorem z_X5_refuse_24 : atL L_X5_refuse 24 = L_X5_refuse_24 := nr rfl
theorem j_X5_refuse_24 {G : List Item → SpS → List Value → List Value → AH → Prop} {J : Nat → SpS → List Value → List Value → AH → Prop} {S : SpS} {lv st : List Value} {h : AH} : jmp G J (afw L_X5_refuse [] 24) 24 S lv st h = G L_X5_refuse_24 S lv st h := nr rfl
theorem e_X5_refuse {x : Addr} {c : Int32} {h : AH} {K2 : Option Value → SpS → AH → Prop} : S_X5_refuse (SHn nn) [.ref x, .int c] h K2 = (fun (K : Option Value → AH → Prop) => x = 0 ∧ isCode c ∧ K (some (.int c)) (refH h c)) (fun v h' => K2 v (SHn nn) h') := (lift_e P_X5_refuse [.ref x, .int c] h K2).trans (nr rfl)
set_option maxRecDepth 100000 in
set_option maxHeartbeats 4000000 in
theorem c_X5_refuse (l : Launch) : Ct l yX5_refuse cX5_refuse 3 (some .int) 2 0 0 S_X5_refuse := by
  refine Ct0_mk L_X5_refuse [] (by decide +kernel) (by decide) ok_X5_refuse (lk_X5_refuse l) ?_
  intro nn as h K hP
  match as, hP with
  | [.ref x, .int c], ⟨hx, hc, hK⟩ =>
  refine ⟨by simp [slotsN, Value.category], fun J hJ => ?_⟩
  subst hx
  obtain ⟨p1, p2, p3, -⟩ := isCode_p hc
  have p4 : inI (nI (refP c)) 4 := by rw [← p3]; exact p2
  refine hJ 0 _ _ _ _ ?_
  simp only [z_X5_refuse_0, u_X5_refuse_0, u_X5_refuse_24, j_X5_refuse_24, ev_sipush, ev_iload_n1, ev_isub, ev_istore_n2, ev_iload_n2, ev_iconst, ev_callS2, ev_if_eq, ev_aload_n0, ev_getfR, ev_dup2_int_int, ev_dup2_int_ref, ev_dup2_ref_int, ev_dup2_ref_ref, ev_iaload, ev_iadd, ev_iastore, ev_iret, ro_i, ro_z, ↓e_X5_isWithin, capO_z, kb_6, kb_11, kb_13, kb_15, kb_17, kb_18, kb_19, kb_23, kb_24, kb_25, kb_26, kb_29, kb_31, kb_35, kb_37, kb_41, kb_43, kb_44, kb_61, kb_75, kb_104, kb_7, kb_8, kb_9, kb_10, kb_12, kb_16, kb_20, kb_21, kb_30, kb_32, kb_40, kb_48, kb_50, kb_57, kb_59, kb_60, kb_63, kb_70, kb_78, kb_81, kb_82, kb_84, kb_97, kb_99, kb_100, kb_101, kb_119, kb_120, kb_122, ki_m1, ki_0, ki_1, ki_2, ki_3, ki_4, ki_5, ki_6, ki_7, ki_8, ki_9, ki_10, ki_11, ki_12, ki_13, ki_14, ki_15, ki_16, ki_17, ki_18, ki_19, ki_20, ki_21, ki_22, ki_23, ki_24, ki_25, ki_26, ki_27, ki_28, ki_29, ki_30, ki_31, ki_32, ki_33, ki_34, ki_35, ki_36, ki_37, ki_38, ki_39, ki_40, ki_41, ki_42, ki_43, ki_44, ki_45, ki_46, ki_47, ki_48, ki_49, ki_50, ki_51, ki_52, ki_53, ki_54, ki_55, ki_56, ki_57, ki_58, ki_59, ki_60, ki_61, ki_62, ki_63, ks_m2000, ks_m1006, ks_m1005, ks_m1004, ks_m1003, ks_m1002, ks_m1000, ks_200, ks_201, ks_300, ks_720, ks_9000, ks_10000, ks_250, ks_255, ks_256, ks_320, ks_660, ks_999, ks_1000, ks_9999, ks_12345, ne_2, ne_10, t_0, t_40, t_41, t_42, t_43, t_44, t_45, t_46, t_47, r_0_0, r_0_1, r_0_2, r_0_4, r_0_5, r_0_6, r_0_7, r_40_0, r_40_5, r_44_0, r_44_1, t_1, t_14, t_27, t_2, t_15, t_28, t_64, Nat.reduceEqDiff, ne_eq, not_false_eq_true, false_implies, true_implies, implies_true, Nat.reduceAdd, Nat.reduceLeDiff, Nat.reduceLT, Nat.reduceMul, or_true, true_or, if_true, if_false, not_true_eq_false, and_self, bF, Nat.reduceBEq, Bool.false_and, Bool.and_false, Bool.or_self, Bool.or_false, Bool.false_or, Bool.false_eq_true, Int.reduceAdd, Bool.and_self, Bool.true_and, Bool.and_true, beq_self_eq_true, not_not_, i10_, i01_, List.length_nil, List.length_cons, true_and, and_true, false_and, and_false, kl_i, kl_a, kl_n, kl_l, tl_s, tl_n, rv_S, pd_0, pd_e, pd_r, pd_i, pd_l, b2i_t p4, p3, vpN (show refP c < 5 from p1) (show 5 < 2147483648 by omega), nI_clamp (show refP c < 2 ^ 31 by omega), one_z]
  exact hK
def usedN (H : Nat → Int32) : Int32 := forN 8 (fun s a => if H s = -1 then a else a + 1) 0
def P_X5_shelvesInUse : Sp0T := fun as h K => match as with
  | [.ref x] => x = 0 ∧ K (some (.int (usedN (fun s => gI h (48 + 2 * s) 0)))) h
  | _ => False
def S_X5_shelvesInUse : SpT := lift P_X5_shelvesInUse
def L_X5_shelvesInUse_31 : List Item := (31, .iload_n 1, [], nS) :: (32, .ireturn, [], nS) :: []
def L_X5_shelvesInUse_25 : List Item := (25, .iinc 2 1, [], nS) :: (28, .goto (-24), [4], nS) :: L_X5_shelvesInUse_31
def L_X5_shelvesInUse_4 : List Item := (4, .iload_n 2, [], nS) :: (5, .bipush 8, [], nS) :: (7, .if_icmp .ge 24, [31], nS) :: (10, .aload_n 0, [], nS) :: (11, .getfield 31, [5, 5, 1], nS) :: (14, .iload_n 2, [], nS) :: (15, .aaload, [], nS) :: (16, .invokevirtual 79, [0, 3, 0, 0], S_X3_isEmpty) :: (19, .ifCond .ne 6, [25], nS) :: (22, .iinc 1 1, [], nS) :: L_X5_shelvesInUse_25
def L_X5_shelvesInUse_0 : List Item := (0, .iconst 0, [], nS) :: (1, .istore_n 1, [], nS) :: (2, .iconst 0, [], nS) :: (3, .istore_n 2, [], nS) :: (4, .nop, [], nS) :: L_X5_shelvesInUse_4
def L_X5_shelvesInUse : List Item := L_X5_shelvesInUse_0
theorem ok_X5_shelvesInUse : okB cX5_shelvesInUse L_X5_shelvesInUse = true := by decide +kernel
theorem lk_X5_shelvesInUse (l : Launch) : LKs l RX5 2 false L_X5_shelvesInUse := ⟨trivial, trivial, trivial, trivial, trivial, trivial, trivial, trivial, trivial, ⟨_, _, _, rfl, ⟨(RX5, TX5, 8), rfl, by decide, gT_of (List.mem_of_getElem? (i := 196) (by decide +kernel)) rfl⟩, rfl⟩, trivial, trivial, ⟨_, _, _, _, _, _, _, _, _, rfl, c_X3_isEmpty l, Or.inl ⟨by decide, yv_X3_isEmpty⟩, by decide, gT_of (List.mem_of_getElem? (i := 246) (by decide +kernel)) rfl⟩, trivial, trivial, trivial, trivial, trivial, trivial, trivial⟩
theorem b_X5_shelvesInUse_0 : atL L_X5_shelvesInUse 0 = L_X5_shelvesInUse_0 := rfl
theorem b_X5_shelvesInUse_4 : atL L_X5_shelvesInUse 4 = L_X5_shelvesInUse_4 := rfl
theorem b_X5_shelvesInUse_25 : atL L_X5_shelvesInUse 25 = L_X5_shelvesInUse_25 := rfl
theorem b_X5_shelvesInUse_31 : atL L_X5_shelvesInUse 31 = L_X5_shelvesInUse_31 := rfl
theorem a_X5_shelvesInUse_25 : afw L_X5_shelvesInUse [4] 25 = L_X5_shelvesInUse_25 := rfl
theorem a_X5_shelvesInUse_31 : afw L_X5_shelvesInUse [4] 31 = L_X5_shelvesInUse_31 := rfl
theorem a_X5_shelvesInUse_4 : afw L_X5_shelvesInUse [4] 4 = [] := rfl
theorem yv_X5_shelvesInUse : YV yX5_shelvesInUse cX5_shelvesInUse 3 (some .int) 0 5 := ⟨⟨gT_of (List.mem_of_getElem? (i := 725) (by decide +kernel)) rfl, gT_of (List.mem_of_getElem? (i := 26) (by decide +kernel)) rfl, ⟨by decide, by decide⟩, by decide +kernel, by decide⟩, gT_of (List.mem_of_getElem? (i := 724) (by decide +kernel)) rfl, gT_of (List.mem_of_getElem? (i := 24) (by decide +kernel)) rfl, rfl⟩
theorem u_X5_shelvesInUse_0 : L_X5_shelvesInUse_0 = (0, .iconst 0, [], nS) :: (1, .istore_n 1, [], nS) :: (2, .iconst 0, [], nS) :: (3, .istore_n 2, [], nS) :: (4, .nop, [], nS) :: L_X5_shelvesInUse_4 := nr rfl
theorem u_X5_shelvesInUse_4 : L_X5_shelvesInUse_4 = (4, .iload_n 2, [], nS) :: (5, .bipush 8, [], nS) :: (7, .if_icmp .ge 24, [31], nS) :: (10, .aload_n 0, [], nS) :: (11, .getfield 31, [5, 5, 1], nS) :: (14, .iload_n 2, [], nS) :: (15, .aaload, [], nS) :: (16, .invokevirtual 79, [0, 3, 0, 0], S_X3_isEmpty) :: (19, .ifCond .ne 6, [25], nS) :: (22, .iinc 1 1, [], nS) :: L_X5_shelvesInUse_25 := nr rfl
theorem u_X5_shelvesInUse_25 : L_X5_shelvesInUse_25 = (25, .iinc 2 1, [], nS) :: (28, .goto (-24), [4], nS) :: L_X5_shelvesInUse_31 := nr rfl
theorem u_X5_shelvesInUse_31 : L_X5_shelvesInUse_31 = (31, .iload_n 1, [], nS) :: (32, .ireturn, [], nS) :: [] := nr rfl
theorem z_X5_shelvesInUse_0 : atL L_X5_shelvesInUse 0 = L_X5_shelvesInUse_0 := nr rfl
theorem z_X5_shelvesInUse_4 : atL L_X5_shelvesInUse 4 = L_X5_shelvesInUse_4 := nr rfl
theorem z_X5_shelvesInUse_25 : atL L_X5_shelvesInUse 25 = L_X5_shelvesInUse_25 := nr rfl
theorem z_X5_shelvesInUse_31 : atL L_X5_shelvesInUse 31 = L_X5_shelvesInUse_31 := nr rfl
theorem j_X5_shelvesInUse_25 {G : List Item → SpS → List Value → List Value → AH → Prop} {J : Nat → SpS → List Value → List Value → AH → Prop} {S : SpS} {lv st : List Value} {h : AH} : jmp G J (afw L_X5_shelvesInUse [4] 25) 25 S lv st h = G L_X5_shelvesInUse_25 S lv st h := nr rfl
theorem j_X5_shelvesInUse_31 {G : List Item → SpS → List Value → List Value → AH → Prop} {J : Nat → SpS → List Value → List Value → AH → Prop} {S : SpS} {lv st : List Value} {h : AH} : jmp G J (afw L_X5_shelvesInUse [4] 31) 31 S lv st h = G L_X5_shelvesInUse_31 S lv st h := nr rfl
theorem j_X5_shelvesInUse_4 {G : List Item → SpS → List Value → List Value → AH → Prop} {J : Nat → SpS → List Value → List Value → AH → Prop} {S : SpS} {lv st : List Value} {h : AH} : jmp G J (afw L_X5_shelvesInUse [4] 4) 4 S lv st h = J 4 S lv st h := nr rfl
theorem e_X5_shelvesInUse {x : Addr} {h : AH} {K2 : Option Value → SpS → AH → Prop} : S_X5_shelvesInUse (SHn nn) [.ref x] h K2 = (fun (K : Option Value → AH → Prop) => x = 0 ∧ K (some (.int (usedN (fun s => gI h (48 + 2 * s) 0)))) h) (fun v h' => K2 v (SHn nn) h') := (lift_e P_X5_shelvesInUse [.ref x] h K2).trans (nr rfl)
set_option maxRecDepth 100000 in
set_option maxHeartbeats 4000000 in
theorem c_X5_shelvesInUse (l : Launch) : Ct l yX5_shelvesInUse cX5_shelvesInUse 3 (some .int) 2 0 0 S_X5_shelvesInUse := by
  refine Ct0_mk L_X5_shelvesInUse [4] (by decide +kernel) (by decide) ok_X5_shelvesInUse (lk_X5_shelvesInUse l) ?_
  intro nn as h K hP
  match as, hP with
  | [.ref x], ⟨hx, hK⟩ =>
  refine ⟨by simp [slotsN, Value.category], fun J hJ => ?_⟩
  subst hx
  refine hJ 0 _ _ _ _ ?_
  simp only [z_X5_shelvesInUse_0, u_X5_shelvesInUse_0, u_X5_shelvesInUse_4, u_X5_shelvesInUse_25, u_X5_shelvesInUse_31, j_X5_shelvesInUse_4, j_X5_shelvesInUse_25, j_X5_shelvesInUse_31, ev_iconst, ev_istore_n1, ev_istore_n2, ev_nop, ev_iload_n2, ev_bipush, ev_ic_ge, ev_aload_n0, ev_getfR, ev_aaload, ev_callV0, ev_if_ne, ev_iinc1, ev_iinc2, ev_goto, ev_iload_n1, ev_iret, ro_i, ro_z, ↓e_X3_isEmpty, capO_z, kb_6, kb_11, kb_13, kb_15, kb_17, kb_18, kb_19, kb_23, kb_24, kb_25, kb_26, kb_29, kb_31, kb_35, kb_37, kb_41, kb_43, kb_44, kb_61, kb_75, kb_104, kb_7, kb_8, kb_9, kb_10, kb_12, kb_16, kb_20, kb_21, kb_30, kb_32, kb_40, kb_48, kb_50, kb_57, kb_59, kb_60, kb_63, kb_70, kb_78, kb_81, kb_82, kb_84, kb_97, kb_99, kb_100, kb_101, kb_119, kb_120, kb_122, ki_m1, ki_0, ki_1, ki_2, ki_3, ki_4, ki_5, ki_6, ki_7, ki_8, ki_9, ki_10, ki_11, ki_12, ki_13, ki_14, ki_15, ki_16, ki_17, ki_18, ki_19, ki_20, ki_21, ki_22, ki_23, ki_24, ki_25, ki_26, ki_27, ki_28, ki_29, ki_30, ki_31, ki_32, ki_33, ki_34, ki_35, ki_36, ki_37, ki_38, ki_39, ki_40, ki_41, ki_42, ki_43, ki_44, ki_45, ki_46, ki_47, ki_48, ki_49, ki_50, ki_51, ki_52, ki_53, ki_54, ki_55, ki_56, ki_57, ki_58, ki_59, ki_60, ki_61, ki_62, ki_63, ks_m2000, ks_m1006, ks_m1005, ks_m1004, ks_m1003, ks_m1002, ks_m1000, ks_200, ks_201, ks_300, ks_720, ks_9000, ks_10000, ks_250, ks_255, ks_256, ks_320, ks_660, ks_999, ks_1000, ks_9999, ks_12345, ne_2, ne_10, t_0, t_40, t_41, t_42, t_43, t_44, t_45, t_46, t_47, r_0_0, r_0_1, r_0_2, r_0_4, r_0_5, r_0_6, r_0_7, r_40_0, r_40_5, r_44_0, r_44_1, t_1, t_14, t_27, t_2, t_15, t_28, t_64, Nat.reduceEqDiff, ne_eq, not_false_eq_true, false_implies, true_implies, implies_true, Nat.reduceAdd, Nat.reduceLeDiff, Nat.reduceLT, Nat.reduceMul, or_true, true_or, if_true, if_false, not_true_eq_false, and_self, bF, Nat.reduceBEq, Bool.false_and, Bool.and_false, Bool.or_self, Bool.or_false, Bool.false_or, Bool.false_eq_true, Int.reduceAdd, Bool.and_self, Bool.true_and, Bool.and_true, beq_self_eq_true, not_not_, i10_, i01_, List.length_nil, List.length_cons, true_and, and_true, false_and, and_false, kl_i, kl_a, kl_n, kl_l, tl_s, tl_n, rv_S, pd_0, pd_e, pd_r, pd_i, pd_l]
  refine dn (P := fun i => J 4 (SHn nn) [.ref 0, .int (forN i (fun s a => if gI h (48 + 2 * s) 0 = -1 then a else a + 1) 0), .int (nI i)] [] h) 8 ?_ (fun i hi ih => ?_)
  · refine hJ 4 _ _ _ _ ?_
    simp only [z_X5_shelvesInUse_4, u_X5_shelvesInUse_0, u_X5_shelvesInUse_4, u_X5_shelvesInUse_25, u_X5_shelvesInUse_31, j_X5_shelvesInUse_4, j_X5_shelvesInUse_25, j_X5_shelvesInUse_31, ev_iconst, ev_istore_n1, ev_istore_n2, ev_nop, ev_iload_n2, ev_bipush, ev_ic_ge, ev_aload_n0, ev_getfR, ev_aaload, ev_callV0, ev_if_ne, ev_iinc1, ev_iinc2, ev_goto, ev_iload_n1, ev_iret, ro_i, ro_z, ↓e_X3_isEmpty, capO_z, kb_6, kb_11, kb_13, kb_15, kb_17, kb_18, kb_19, kb_23, kb_24, kb_25, kb_26, kb_29, kb_31, kb_35, kb_37, kb_41, kb_43, kb_44, kb_61, kb_75, kb_104, kb_7, kb_8, kb_9, kb_10, kb_12, kb_16, kb_20, kb_21, kb_30, kb_32, kb_40, kb_48, kb_50, kb_57, kb_59, kb_60, kb_63, kb_70, kb_78, kb_81, kb_82, kb_84, kb_97, kb_99, kb_100, kb_101, kb_119, kb_120, kb_122, ki_m1, ki_0, ki_1, ki_2, ki_3, ki_4, ki_5, ki_6, ki_7, ki_8, ki_9, ki_10, ki_11, ki_12, ki_13, ki_14, ki_15, ki_16, ki_17, ki_18, ki_19, ki_20, ki_21, ki_22, ki_23, ki_24, ki_25, ki_26, ki_27, ki_28, ki_29, ki_30, ki_31, ki_32, ki_33, ki_34, ki_35, ki_36, ki_37, ki_38, ki_39, ki_40, ki_41, ki_42, ki_43, ki_44, ki_45, ki_46, ki_47, ki_48, ki_49, ki_50, ki_51, ki_52, ki_53, ki_54, ki_55, ki_56, ki_57, ki_58, ki_59, ki_60, ki_61, ki_62, ki_63, ks_m2000, ks_m1006, ks_m1005, ks_m1004, ks_m1003, ks_m1002, ks_m1000, ks_200, ks_201, ks_300, ks_720, ks_9000, ks_10000, ks_250, ks_255, ks_256, ks_320, ks_660, ks_999, ks_1000, ks_9999, ks_12345, ne_2, ne_10, t_0, t_40, t_41, t_42, t_43, t_44, t_45, t_46, t_47, r_0_0, r_0_1, r_0_2, r_0_4, r_0_5, r_0_6, r_0_7, r_40_0, r_40_5, r_44_0, r_44_1, t_1, t_14, t_27, t_2, t_15, t_28, t_64, Nat.reduceEqDiff, ne_eq, not_false_eq_true, false_implies, true_implies, implies_true, Nat.reduceAdd, Nat.reduceLeDiff, Nat.reduceLT, Nat.reduceMul, or_true, true_or, if_true, if_false, not_true_eq_false, and_self, bF, Nat.reduceBEq, Bool.false_and, Bool.and_false, Bool.or_self, Bool.or_false, Bool.false_or, Bool.false_eq_true, Int.reduceAdd, Bool.and_self, Bool.true_and, Bool.and_true, beq_self_eq_true, not_not_, i10_, i01_, List.length_nil, List.length_cons, true_and, and_true, false_and, and_false, kl_i, kl_a, kl_n, kl_l, tl_s, tl_n, rv_S, pd_0, pd_e, pd_r, pd_i, pd_l, show ((8 : Int32) ≤ nI 8) = True by decide]
    exact hK
  · rw [forN_s] at ih
    refine hJ 4 _ _ _ _ ?_
    simp only [z_X5_shelvesInUse_4, u_X5_shelvesInUse_0, u_X5_shelvesInUse_4, u_X5_shelvesInUse_25, u_X5_shelvesInUse_31, j_X5_shelvesInUse_4, j_X5_shelvesInUse_25, j_X5_shelvesInUse_31, ev_iconst, ev_istore_n1, ev_istore_n2, ev_nop, ev_iload_n2, ev_bipush, ev_ic_ge, ev_aload_n0, ev_getfR, ev_aaload, ev_callV0, ev_if_ne, ev_iinc1, ev_iinc2, ev_goto, ev_iload_n1, ev_iret, ro_i, ro_z, ↓e_X3_isEmpty, capO_z, kb_6, kb_11, kb_13, kb_15, kb_17, kb_18, kb_19, kb_23, kb_24, kb_25, kb_26, kb_29, kb_31, kb_35, kb_37, kb_41, kb_43, kb_44, kb_61, kb_75, kb_104, kb_7, kb_8, kb_9, kb_10, kb_12, kb_16, kb_20, kb_21, kb_30, kb_32, kb_40, kb_48, kb_50, kb_57, kb_59, kb_60, kb_63, kb_70, kb_78, kb_81, kb_82, kb_84, kb_97, kb_99, kb_100, kb_101, kb_119, kb_120, kb_122, ki_m1, ki_0, ki_1, ki_2, ki_3, ki_4, ki_5, ki_6, ki_7, ki_8, ki_9, ki_10, ki_11, ki_12, ki_13, ki_14, ki_15, ki_16, ki_17, ki_18, ki_19, ki_20, ki_21, ki_22, ki_23, ki_24, ki_25, ki_26, ki_27, ki_28, ki_29, ki_30, ki_31, ki_32, ki_33, ki_34, ki_35, ki_36, ki_37, ki_38, ki_39, ki_40, ki_41, ki_42, ki_43, ki_44, ki_45, ki_46, ki_47, ki_48, ki_49, ki_50, ki_51, ki_52, ki_53, ki_54, ki_55, ki_56, ki_57, ki_58, ki_59, ki_60, ki_61, ki_62, ki_63, ks_m2000, ks_m1006, ks_m1005, ks_m1004, ks_m1003, ks_m1002, ks_m1000, ks_200, ks_201, ks_300, ks_720, ks_9000, ks_10000, ks_250, ks_255, ks_256, ks_320, ks_660, ks_999, ks_1000, ks_9999, ks_12345, ne_2, ne_10, t_0, t_40, t_41, t_42, t_43, t_44, t_45, t_46, t_47, r_0_0, r_0_1, r_0_2, r_0_4, r_0_5, r_0_6, r_0_7, r_40_0, r_40_5, r_44_0, r_44_1, t_1, t_14, t_27, t_2, t_15, t_28, t_64, Nat.reduceEqDiff, ne_eq, not_false_eq_true, false_implies, true_implies, implies_true, Nat.reduceAdd, Nat.reduceLeDiff, Nat.reduceLT, Nat.reduceMul, or_true, true_or, if_true, if_false, not_true_eq_false, and_self, bF, Nat.reduceBEq, Bool.false_and, Bool.and_false, Bool.or_self, Bool.or_false, Bool.false_or, Bool.false_eq_true, Int.reduceAdd, Bool.and_self, Bool.true_and, Bool.and_true, beq_self_eq_true, not_not_, i10_, i01_, List.length_nil, List.length_cons, true_and, and_true, false_and, and_false, kl_i, kl_a, kl_n, kl_l, tl_s, tl_n, rv_S, pd_0, pd_e, pd_r, pd_i, pd_l, lp8F hi, vp8 hi, nI_clamp (show i < 2 ^ 31 by omega), rSh hi, tSh hi, b2i_0, nI_1]
    refine ⟨fun q => ?_, fun q => ?_⟩
    · rw [if_pos q] at ih; exact ih
    · rw [if_neg q] at ih; exact ih
def rowR (H Z m : Int32) : Int32 := if 10 ≤ H then -1003 else if H = -1 then -1004 else if Z < m then -1002 else 0
def P_X5_rowRefusal : Sp0T := fun as h K => match as with
  | [.ref x, .int s, .int m] => x = 0 ∧ ∃ t : Nat, t < 8 ∧ s = nI t ∧ K (some (.int (rowR (gI h (48 + 2 * t) 0) (gI h (48 + 2 * t) 1) m))) h
  | _ => False
def S_X5_rowRefusal : SpT := lift P_X5_rowRefusal
def L_X5_rowRefusal_52 : List Item := (52, .ireturn, [], nS) :: []
def L_X5_rowRefusal_51 : List Item := (51, .iconst 0, [], nS) :: L_X5_rowRefusal_52
def L_X5_rowRefusal_32 : List Item := (32, .aload_n 0, [], nS) :: (33, .getfield 31, [5, 5, 1], nS) :: (36, .iload_n 1, [], nS) :: (37, .aaload, [], nS) :: (38, .getfield 67, [3, 1, 0], nS) :: (41, .iload_n 2, [], nS) :: (42, .if_icmp .ge 9, [51], nS) :: (45, .sipush (-1002), [], nS) :: (48, .goto 4, [52], nS) :: L_X5_rowRefusal_51
def L_X5_rowRefusal_16 : List Item := (16, .aload_n 0, [], nS) :: (17, .getfield 31, [5, 5, 1], nS) :: (20, .iload_n 1, [], nS) :: (21, .aaload, [], nS) :: (22, .invokevirtual 79, [0, 3, 0, 0], S_X3_isEmpty) :: (25, .ifCond .eq 7, [32], nS) :: (28, .sipush (-1004), [], nS) :: (31, .ireturn, [], nS) :: L_X5_rowRefusal_32
def L_X5_rowRefusal_0 : List Item := (0, .aload_n 0, [], nS) :: (1, .getfield 31, [5, 5, 1], nS) :: (4, .iload_n 1, [], nS) :: (5, .aaload, [], nS) :: (6, .invokevirtual 75, [0, 3, 0, 0], S_X3_showsHeir) :: (9, .ifCond .eq 7, [16], nS) :: (12, .sipush (-1003), [], nS) :: (15, .ireturn, [], nS) :: L_X5_rowRefusal_16
def L_X5_rowRefusal : List Item := L_X5_rowRefusal_0
theorem ok_X5_rowRefusal : okB cX5_rowRefusal L_X5_rowRefusal = true := by decide +kernel
theorem lk_X5_rowRefusal (l : Launch) : LKs l RX5 2 false L_X5_rowRefusal := ⟨trivial, ⟨_, _, _, rfl, ⟨(RX5, TX5, 8), rfl, by decide, gT_of (List.mem_of_getElem? (i := 196) (by decide +kernel)) rfl⟩, rfl⟩, trivial, trivial, ⟨_, _, _, _, _, _, _, _, _, rfl, c_X3_showsHeir l, Or.inl ⟨by decide, yv_X3_showsHeir⟩, by decide, gT_of (List.mem_of_getElem? (i := 242) (by decide +kernel)) rfl⟩, trivial, trivial, trivial, trivial, ⟨_, _, _, rfl, ⟨(RX5, TX5, 8), rfl, by decide, gT_of (List.mem_of_getElem? (i := 196) (by decide +kernel)) rfl⟩, rfl⟩, trivial, trivial, ⟨_, _, _, _, _, _, _, _, _, rfl, c_X3_isEmpty l, Or.inl ⟨by decide, yv_X3_isEmpty⟩, by decide, gT_of (List.mem_of_getElem? (i := 246) (by decide +kernel)) rfl⟩, trivial, trivial, trivial, trivial, ⟨_, _, _, rfl, ⟨(RX5, TX5, 8), rfl, by decide, gT_of (List.mem_of_getElem? (i := 196) (by decide +kernel)) rfl⟩, rfl⟩, trivial, trivial, ⟨_, _, _, rfl, ⟨(RX3, TX3, 3), rfl, by decide, gT_of (List.mem_of_getElem? (i := 179) (by decide +kernel)) rfl⟩, rfl⟩, trivial, trivial, trivial, trivial, trivial, trivial, trivial⟩
theorem b_X5_rowRefusal_0 : atL L_X5_rowRefusal 0 = L_X5_rowRefusal_0 := rfl
theorem b_X5_rowRefusal_16 : atL L_X5_rowRefusal 16 = L_X5_rowRefusal_16 := rfl
theorem b_X5_rowRefusal_32 : atL L_X5_rowRefusal 32 = L_X5_rowRefusal_32 := rfl
theorem b_X5_rowRefusal_51 : atL L_X5_rowRefusal 51 = L_X5_rowRefusal_51 := rfl
theorem b_X5_rowRefusal_52 : atL L_X5_rowRefusal 52 = L_X5_rowRefusal_52 := rfl
theorem a_X5_rowRefusal_16 : afw L_X5_rowRefusal [] 16 = L_X5_rowRefusal_16 := rfl
theorem a_X5_rowRefusal_32 : afw L_X5_rowRefusal [] 32 = L_X5_rowRefusal_32 := rfl
theorem a_X5_rowRefusal_51 : afw L_X5_rowRefusal [] 51 = L_X5_rowRefusal_51 := rfl
theorem a_X5_rowRefusal_52 : afw L_X5_rowRefusal [] 52 = L_X5_rowRefusal_52 := rfl
theorem yv_X5_rowRefusal : YV yX5_rowRefusal cX5_rowRefusal 3 (some .int) 2 5 := ⟨⟨gT_of (List.mem_of_getElem? (i := 241) (by decide +kernel)) rfl, gT_of (List.mem_of_getElem? (i := 26) (by decide +kernel)) rfl, ⟨by decide, by decide⟩, by decide +kernel, by decide⟩, gT_of (List.mem_of_getElem? (i := 240) (by decide +kernel)) rfl, gT_of (List.mem_of_getElem? (i := 1) (by decide +kernel)) rfl, rfl⟩
theorem u_X5_rowRefusal_0 : L_X5_rowRefusal_0 = (0, .aload_n 0, [], nS) :: (1, .getfield 31, [5, 5, 1], nS) :: (4, .iload_n 1, [], nS) :: (5, .aaload, [], nS) :: (6, .invokevirtual 75, [0, 3, 0, 0], S_X3_showsHeir) :: (9, .ifCond .eq 7, [16], nS) :: (12, .sipush (-1003), [], nS) :: (15, .ireturn, [], nS) :: L_X5_rowRefusal_16 := nr rfl
theorem u_X5_rowRefusal_16 : L_X5_rowRefusal_16 = (16, .aload_n 0, [], nS) :: (17, .getfield 31, [5, 5, 1], nS) :: (20, .iload_n 1, [], nS) :: (21, .aaload, [], nS) :: (22, .invokevirtual 79, [0, 3, 0, 0], S_X3_isEmpty) :: (25, .ifCond .eq 7, [32], nS) :: (28, .sipush (-1004), [], nS) :: (31, .ireturn, [], nS) :: L_X5_rowRefusal_32 := nr rfl
theorem u_X5_rowRefusal_32 : L_X5_rowRefusal_32 = (32, .aload_n 0, [], nS) :: (33, .getfield 31, [5, 5, 1], nS) :: (36, .iload_n 1, [], nS) :: (37, .aaload, [], nS) :: (38, .getfield 67, [3, 1, 0], nS) :: (41, .iload_n 2, [], nS) :: (42, .if_icmp .ge 9, [51], nS) :: (45, .sipush (-1002), [], nS) :: (48, .goto 4, [52], nS) :: L_X5_rowRefusal_51 := nr rfl
theorem u_X5_rowRefusal_51 : L_X5_rowRefusal_51 = (51, .iconst 0, [], nS) :: L_X5_rowRefusal_52 := nr rfl
theorem u_X5_rowRefusal_52 : L_X5_rowRefusal_52 = (52, .ireturn, [], nS) :: [] := nr rfl
theorem z_X5_rowRefusal_0 : atL L_X5_rowRefusal 0 = L_X5_rowRefusal_0 := nr rfl
theorem z_X5_rowRefusal_16 : atL L_X5_rowRefusal 16 = L_X5_rowRefusal_16 := nr rfl
theorem z_X5_rowRefusal_32 : atL L_X5_rowRefusal 32 = L_X5_rowRefusal_32 := nr rfl
theorem z_X5_rowRefusal_51 : atL L_X5_rowRefusal 51 = L_X5_rowRefusal_51 := nr rfl
theorem z_X5_rowRefusal_52 : atL L_X5_rowRefusal 52 = L_X5_rowRefusal_52 := nr rfl
theorem j_X5_rowRefusal_16 {G : List Item → SpS → List Value → List Value → AH → Prop} {J : Nat → SpS → List Value → List Value → AH → Prop} {S : SpS} {lv st : List Value} {h : AH} : jmp G J (afw L_X5_rowRefusal [] 16) 16 S lv st h = G L_X5_rowRefusal_16 S lv st h := nr rfl
theorem j_X5_rowRefusal_32 {G : List Item → SpS → List Value → List Value → AH → Prop} {J : Nat → SpS → List Value → List Value → AH → Prop} {S : SpS} {lv st : List Value} {h : AH} : jmp G J (afw L_X5_rowRefusal [] 32) 32 S lv st h = G L_X5_rowRefusal_32 S lv st h := nr rfl
theorem j_X5_rowRefusal_51 {G : List Item → SpS → List Value → List Value → AH → Prop} {J : Nat → SpS → List Value → List Value → AH → Prop} {S : SpS} {lv st : List Value} {h : AH} : jmp G J (afw L_X5_rowRefusal [] 51) 51 S lv st h = G L_X5_rowRefusal_51 S lv st h := nr rfl
theorem j_X5_rowRefusal_52 {G : List Item → SpS → List Value → List Value → AH → Prop} {J : Nat → SpS → List Value → List Value → AH → Prop} {S : SpS} {lv st : List Value} {h : AH} : jmp G J (afw L_X5_rowRefusal [] 52) 52 S lv st h = G L_X5_rowRefusal_52 S lv st h := nr rfl
theorem e_X5_rowRefusal {x : Addr} {s : Int32} {m : Int32} {h : AH} {K2 : Option Value → SpS → AH → Prop} : S_X5_rowRefusal (SHn nn) [.ref x, .int s, .int m] h K2 = (fun (K : Option Value → AH → Prop) => x = 0 ∧ ∃ t : Nat, t < 8 ∧ s = nI t ∧ K (some (.int (rowR (gI h (48 + 2 * t) 0) (gI h (48 + 2 * t) 1) m))) h) (fun v h' => K2 v (SHn nn) h') := (lift_e P_X5_rowRefusal [.ref x, .int s, .int m] h K2).trans (nr rfl)
set_option maxRecDepth 100000 in
set_option maxHeartbeats 4000000 in
theorem c_X5_rowRefusal (l : Launch) : Ct l yX5_rowRefusal cX5_rowRefusal 3 (some .int) 2 0 0 S_X5_rowRefusal := by
  refine Ct0_mk L_X5_rowRefusal [] (by decide +kernel) (by decide) ok_X5_rowRefusal (lk_X5_rowRefusal l) ?_
  intro nn as h K hP
  match as, hP with
  | [.ref x, .int s, .int m], ⟨hx, t, ht, hs, hK⟩ =>
  refine ⟨by simp [slotsN, Value.category], fun J hJ => ?_⟩
  subst hx hs
  refine hJ 0 _ _ _ _ ?_
  simp only [z_X5_rowRefusal_0, u_X5_rowRefusal_0, u_X5_rowRefusal_16, u_X5_rowRefusal_32, u_X5_rowRefusal_51, u_X5_rowRefusal_52, j_X5_rowRefusal_16, j_X5_rowRefusal_32, j_X5_rowRefusal_51, j_X5_rowRefusal_52, ev_aload_n0, ev_getfR, ev_iload_n1, ev_aaload, ev_callV0, ev_if_eq, ev_sipush, ev_iret, ro_i, ro_z, ev_getfI, ev_iload_n2, ev_ic_ge, ev_goto, ev_iconst, ↓e_X3_isEmpty, ↓e_X3_showsHeir, capO_z, kb_6, kb_11, kb_13, kb_15, kb_17, kb_18, kb_19, kb_23, kb_24, kb_25, kb_26, kb_29, kb_31, kb_35, kb_37, kb_41, kb_43, kb_44, kb_61, kb_75, kb_104, kb_7, kb_8, kb_9, kb_10, kb_12, kb_16, kb_20, kb_21, kb_30, kb_32, kb_40, kb_48, kb_50, kb_57, kb_59, kb_60, kb_63, kb_70, kb_78, kb_81, kb_82, kb_84, kb_97, kb_99, kb_100, kb_101, kb_119, kb_120, kb_122, ki_m1, ki_0, ki_1, ki_2, ki_3, ki_4, ki_5, ki_6, ki_7, ki_8, ki_9, ki_10, ki_11, ki_12, ki_13, ki_14, ki_15, ki_16, ki_17, ki_18, ki_19, ki_20, ki_21, ki_22, ki_23, ki_24, ki_25, ki_26, ki_27, ki_28, ki_29, ki_30, ki_31, ki_32, ki_33, ki_34, ki_35, ki_36, ki_37, ki_38, ki_39, ki_40, ki_41, ki_42, ki_43, ki_44, ki_45, ki_46, ki_47, ki_48, ki_49, ki_50, ki_51, ki_52, ki_53, ki_54, ki_55, ki_56, ki_57, ki_58, ki_59, ki_60, ki_61, ki_62, ki_63, ks_m2000, ks_m1006, ks_m1005, ks_m1004, ks_m1003, ks_m1002, ks_m1000, ks_200, ks_201, ks_300, ks_720, ks_9000, ks_10000, ks_250, ks_255, ks_256, ks_320, ks_660, ks_999, ks_1000, ks_9999, ks_12345, ne_2, ne_10, t_0, t_40, t_41, t_42, t_43, t_44, t_45, t_46, t_47, r_0_0, r_0_1, r_0_2, r_0_4, r_0_5, r_0_6, r_0_7, r_40_0, r_40_5, r_44_0, r_44_1, t_1, t_14, t_27, t_2, t_15, t_28, t_64, Nat.reduceEqDiff, ne_eq, not_false_eq_true, false_implies, true_implies, implies_true, Nat.reduceAdd, Nat.reduceLeDiff, Nat.reduceLT, Nat.reduceMul, or_true, true_or, if_true, if_false, not_true_eq_false, and_self, bF, Nat.reduceBEq, Bool.false_and, Bool.and_false, Bool.or_self, Bool.or_false, Bool.false_or, Bool.false_eq_true, Int.reduceAdd, Bool.and_self, Bool.true_and, Bool.and_true, beq_self_eq_true, not_not_, i10_, i01_, List.length_nil, List.length_cons, true_and, and_true, false_and, and_false, kl_i, kl_a, kl_n, kl_l, tl_s, tl_n, rv_S, pd_0, pd_e, pd_r, pd_i, pd_l, vp8 ht, nI_clamp (show t < 2 ^ 31 by omega), rSh ht, tSh ht, b2i_0]
  unfold rowR at hK
  refine ⟨fun q => ⟨fun q2 => ⟨fun q3 => ?_, fun q3 => ?_⟩, fun q2 => ?_⟩, fun q => ?_⟩
  · rw [if_neg q, if_neg q2, if_neg (Int32.not_lt.mpr q3)] at hK; exact hK
  · rw [if_neg q, if_neg q2, if_pos (Int32.not_le.mp q3)] at hK; exact hK
  · rw [if_neg q, if_pos q2] at hK; exact hK
  · rw [if_pos q] at hK; exact hK
def P_X5_suppose : Sp0T := fun as h K => match as with
  | [.ref x] => x = 0 ∧ okE (est h 1) ∧ ∀ h', est h' 14 = supE (est h 1) → frE 14 h h' → K none h'
  | _ => False
def S_X5_suppose : SpT := lift P_X5_suppose
def L_X5_suppose_0 : List Item := (0, .aload_n 0, [], nS) :: (1, .getfield 16, [5, 1, 1], nS) :: (4, .aload_n 0, [], nS) :: (5, .getfield 10, [5, 0, 1], nS) :: (8, .invokevirtual 151, [1, 0, 0, 0], S_X0_copyFrom) :: (11, .aload_n 0, [], nS) :: (12, .getfield 16, [5, 1, 1], nS) :: (15, .invokevirtual 311, [0, 0, 0, 0], S_X0_forgetUsed) :: (18, .return_, [], nS) :: []
def L_X5_suppose : List Item := L_X5_suppose_0
theorem ok_X5_suppose : okB cX5_suppose L_X5_suppose = true := by decide +kernel
theorem lk_X5_suppose (l : Launch) : LKs l RX5 3 false L_X5_suppose := ⟨trivial, ⟨_, _, _, rfl, ⟨(RX5, TX5, 8), rfl, by decide, gT_of (List.mem_of_getElem? (i := 192) (by decide +kernel)) rfl⟩, rfl⟩, trivial, ⟨_, _, _, rfl, ⟨(RX5, TX5, 8), rfl, by decide, gT_of (List.mem_of_getElem? (i := 191) (by decide +kernel)) rfl⟩, rfl⟩, ⟨_, _, _, _, _, _, _, _, _, rfl, c_X0_copyFrom l, Or.inl ⟨by decide, yv_X0_copyFrom⟩, by decide, gT_of (List.mem_of_getElem? (i := 305) (by decide +kernel)) rfl⟩, trivial, ⟨_, _, _, rfl, ⟨(RX5, TX5, 8), rfl, by decide, gT_of (List.mem_of_getElem? (i := 192) (by decide +kernel)) rfl⟩, rfl⟩, ⟨_, _, _, _, _, _, _, _, _, rfl, c_X0_forgetUsed l, Or.inl ⟨by decide, yv_X0_forgetUsed⟩, by decide, gT_of (List.mem_of_getElem? (i := 463) (by decide +kernel)) rfl⟩, trivial, trivial⟩
theorem b_X5_suppose_0 : atL L_X5_suppose 0 = L_X5_suppose_0 := rfl
theorem yv_X5_suppose : YV yX5_suppose cX5_suppose 1 none 0 5 := ⟨⟨gT_of (List.mem_of_getElem? (i := 462) (by decide +kernel)) rfl, gT_of (List.mem_of_getElem? (i := 26) (by decide +kernel)) rfl, ⟨by decide, by decide⟩, by decide +kernel, by decide⟩, gT_of (List.mem_of_getElem? (i := 461) (by decide +kernel)) rfl, gT_of (List.mem_of_getElem? (i := 12) (by decide +kernel)) rfl, rfl⟩
theorem u_X5_suppose_0 : L_X5_suppose_0 = (0, .aload_n 0, [], nS) :: (1, .getfield 16, [5, 1, 1], nS) :: (4, .aload_n 0, [], nS) :: (5, .getfield 10, [5, 0, 1], nS) :: (8, .invokevirtual 151, [1, 0, 0, 0], S_X0_copyFrom) :: (11, .aload_n 0, [], nS) :: (12, .getfield 16, [5, 1, 1], nS) :: (15, .invokevirtual 311, [0, 0, 0, 0], S_X0_forgetUsed) :: (18, .return_, [], nS) :: [] := nr rfl
theorem z_X5_suppose_0 : atL L_X5_suppose 0 = L_X5_suppose_0 := nr rfl
theorem e_X5_suppose {x : Addr} {h : AH} {K2 : Option Value → SpS → AH → Prop} : S_X5_suppose (SHn nn) [.ref x] h K2 = (fun (K : Option Value → AH → Prop) => x = 0 ∧ okE (est h 1) ∧ ∀ h', est h' 14 = supE (est h 1) → frE 14 h h' → K none h') (fun v h' => K2 v (SHn nn) h') := (lift_e P_X5_suppose [.ref x] h K2).trans (nr rfl)
set_option maxRecDepth 100000 in
set_option maxHeartbeats 4000000 in
theorem c_X5_suppose (l : Launch) : Ct l yX5_suppose cX5_suppose 1 none 3 0 0 S_X5_suppose := by
  refine Ct0_mk L_X5_suppose [] (by decide +kernel) (by decide) ok_X5_suppose (lk_X5_suppose l) ?_
  intro nn as h K hP
  match as, hP with
  | [.ref x], ⟨hx, ho, hK⟩ =>
  refine ⟨by simp [slotsN, Value.category], fun J hJ => ?_⟩
  subst hx
  refine hJ 0 _ _ _ _ ?_
  simp only [z_X5_suppose_0, u_X5_suppose_0, ev_aload_n0, ev_getfR, ev_callV1, ev_callV0, ev_vret, ↓e_X0_copyFrom, ↓e_X0_forgetUsed, capO_z, kb_6, kb_11, kb_13, kb_15, kb_17, kb_18, kb_19, kb_23, kb_24, kb_25, kb_26, kb_29, kb_31, kb_35, kb_37, kb_41, kb_43, kb_44, kb_61, kb_75, kb_104, kb_7, kb_8, kb_9, kb_10, kb_12, kb_16, kb_20, kb_21, kb_30, kb_32, kb_40, kb_48, kb_50, kb_57, kb_59, kb_60, kb_63, kb_70, kb_78, kb_81, kb_82, kb_84, kb_97, kb_99, kb_100, kb_101, kb_119, kb_120, kb_122, ki_m1, ki_0, ki_1, ki_2, ki_3, ki_4, ki_5, ki_6, ki_7, ki_8, ki_9, ki_10, ki_11, ki_12, ki_13, ki_14, ki_15, ki_16, ki_17, ki_18, ki_19, ki_20, ki_21, ki_22, ki_23, ki_24, ki_25, ki_26, ki_27, ki_28, ki_29, ki_30, ki_31, ki_32, ki_33, ki_34, ki_35, ki_36, ki_37, ki_38, ki_39, ki_40, ki_41, ki_42, ki_43, ki_44, ki_45, ki_46, ki_47, ki_48, ki_49, ki_50, ki_51, ki_52, ki_53, ki_54, ki_55, ki_56, ki_57, ki_58, ki_59, ki_60, ki_61, ki_62, ki_63, ks_m2000, ks_m1006, ks_m1005, ks_m1004, ks_m1003, ks_m1002, ks_m1000, ks_200, ks_201, ks_300, ks_720, ks_9000, ks_10000, ks_250, ks_255, ks_256, ks_320, ks_660, ks_999, ks_1000, ks_9999, ks_12345, ne_2, ne_10, t_0, t_40, t_41, t_42, t_43, t_44, t_45, t_46, t_47, r_0_0, r_0_1, r_0_2, r_0_4, r_0_5, r_0_6, r_0_7, r_40_0, r_40_5, r_44_0, r_44_1, t_1, t_14, t_27, t_2, t_15, t_28, t_64, Nat.reduceEqDiff, ne_eq, not_false_eq_true, false_implies, true_implies, implies_true, Nat.reduceAdd, Nat.reduceLeDiff, Nat.reduceLT, Nat.reduceMul, or_true, true_or, if_true, if_false, not_true_eq_false, and_self, bF, Nat.reduceBEq, Bool.false_and, Bool.and_false, Bool.or_self, Bool.or_false, Bool.false_or, Bool.false_eq_true, Int.reduceAdd, Bool.and_self, Bool.true_and, Bool.and_true, beq_self_eq_true, not_not_, i10_, i01_, List.length_nil, List.length_cons, true_and, and_true, false_and, and_false, kl_i, kl_a, kl_n, kl_l, tl_s, tl_n, rv_S, pd_0, pd_e, pd_r, pd_i, pd_l, isE1t, isE14t]
  refine ⟨ho, fun h1 p1 p2 => ⟨?_, fun h2 p3 p4 => hK h2 ?_ (frE_tr p2 p4)⟩⟩
  · rw [p1]; exact ho
  · rw [p3, p1]; rfl
/-- what is supposed: another RULE, KIND, a, or one DEAD -/
def supR (E : ES) (k i c : Int32) (E' : ES) : Prop := (k = 0 ∧ (c = 0 ∨ c = 1 ∨ c = 2) ∧ E' = sS (supE E) 2 c) ∨ (k = 1 ∧ ∃ j : Nat, j < cnt E ∧ i = nI j ∧ E' = sF (supE E) j 0 c) ∨ (k = 2 ∧ ∃ j : Nat, j < cnt E ∧ i = nI j ∧ E' = sF (supE E) j 1 c) ∨ (k = 3 ∧ ∃ j : Nat, j < cnt E ∧ c = nI j ∧ E' = sF (sF (supE E) j 6 2) j 4 0)
theorem k01 : ((0 : Int32) = 1) = False := by decide
theorem k02 : ((0 : Int32) = 2) = False := by decide
theorem k10 : ((1 : Int32) = 0) = False := by decide
theorem k12 : ((1 : Int32) = 2) = False := by decide
theorem k20 : ((2 : Int32) = 0) = False := by decide
theorem k21 : ((2 : Int32) = 1) = False := by decide
theorem k30 : ((3 : Int32) = 0) = False := by decide
theorem k31 : ((3 : Int32) = 1) = False := by decide
theorem k32 : ((3 : Int32) = 2) = False := by decide
def P_X5_suppose_ : Sp0T := fun as h K => match as with
  | [.ref x, .int k, .int i, .int c] => x = 0 ∧ okE (est h 1) ∧ ∃ E', supR (est h 1) k i c E' ∧ ∀ h', est h' 14 = E' → frE 14 h h' → K none h'
  | _ => False
def S_X5_suppose_ : SpT := lift P_X5_suppose_
def L_X5_suppose__87 : List Item := (87, .return_, [], nS) :: []
def L_X5_suppose__75 : List Item := (75, .aload_n 0, [], nS) :: (76, .getfield 16, [5, 1, 1], nS) :: (79, .getfield 117, [0, 6, 1], nS) :: (82, .iload_n 3, [], nS) :: (83, .aaload, [], nS) :: (84, .invokevirtual 314, [0, 1, 0, 0], S_X1_leaveNothing) :: L_X5_suppose__87
def L_X5_suppose__59 : List Item := (59, .aload_n 0, [], nS) :: (60, .getfield 16, [5, 1, 1], nS) :: (63, .getfield 117, [0, 6, 1], nS) :: (66, .iload_n 2, [], nS) :: (67, .aaload, [], nS) :: (68, .iload_n 3, [], nS) :: (69, .putfield 165, [1, 1, 0], nS) :: (72, .goto 15, [87], nS) :: L_X5_suppose__75
def L_X5_suppose__43 : List Item := (43, .aload_n 0, [], nS) :: (44, .getfield 16, [5, 1, 1], nS) :: (47, .getfield 117, [0, 6, 1], nS) :: (50, .iload_n 2, [], nS) :: (51, .aaload, [], nS) :: (52, .iload_n 3, [], nS) :: (53, .putfield 162, [1, 0, 0], nS) :: (56, .goto 31, [87], nS) :: L_X5_suppose__59
def L_X5_suppose__32 : List Item := (32, .aload_n 0, [], nS) :: (33, .getfield 16, [5, 1, 1], nS) :: (36, .iload_n 3, [], nS) :: (37, .putfield 138, [0, 2, 0], nS) :: (40, .goto 47, [87], nS) :: L_X5_suppose__43
def L_X5_suppose__0 : List Item := (0, .aload_n 0, [], nS) :: (1, .invokevirtual 209, [0, 5, 0, 0], S_X5_suppose) :: (4, .iload_n 1, [], nS) :: (5, .tableswitch 70 0 2 #[27, 38, 54], [32, 43, 59, 75], nS) :: L_X5_suppose__32
def L_X5_suppose_ : List Item := L_X5_suppose__0
theorem ok_X5_suppose_ : okB cX5_suppose_ L_X5_suppose_ = true := by decide +kernel
theorem lk_X5_suppose_ (l : Launch) : LKs l RX5 4 false L_X5_suppose_ := ⟨trivial, ⟨_, _, _, _, _, _, _, _, _, rfl, c_X5_suppose l, Or.inl ⟨by decide, yv_X5_suppose⟩, by decide, gT_of (List.mem_of_getElem? (i := 459) (by decide +kernel)) rfl⟩, trivial, trivial, trivial, ⟨_, _, _, rfl, ⟨(RX5, TX5, 8), rfl, by decide, gT_of (List.mem_of_getElem? (i := 192) (by decide +kernel)) rfl⟩, rfl⟩, trivial, ⟨_, _, _, rfl, ⟨(RX0, TX0, 7), rfl, by decide, gT_of (List.mem_of_getElem? (i := 103) (by decide +kernel)) rfl⟩, rfl, fun q => absurd rfl q⟩, trivial, trivial, ⟨_, _, _, rfl, ⟨(RX5, TX5, 8), rfl, by decide, gT_of (List.mem_of_getElem? (i := 192) (by decide +kernel)) rfl⟩, rfl⟩, ⟨_, _, _, rfl, ⟨(RX0, TX0, 7), rfl, by decide, gT_of (List.mem_of_getElem? (i := 114) (by decide +kernel)) rfl⟩, rfl⟩, trivial, trivial, trivial, ⟨_, _, _, rfl, ⟨(RX1, TX1, 7), rfl, by decide, gT_of (List.mem_of_getElem? (i := 61) (by decide +kernel)) rfl⟩, rfl, fun q => absurd rfl q⟩, trivial, trivial, ⟨_, _, _, rfl, ⟨(RX5, TX5, 8), rfl, by decide, gT_of (List.mem_of_getElem? (i := 192) (by decide +kernel)) rfl⟩, rfl⟩, ⟨_, _, _, rfl, ⟨(RX0, TX0, 7), rfl, by decide, gT_of (List.mem_of_getElem? (i := 114) (by decide +kernel)) rfl⟩, rfl⟩, trivial, trivial, trivial, ⟨_, _, _, rfl, ⟨(RX1, TX1, 7), rfl, by decide, gT_of (List.mem_of_getElem? (i := 63) (by decide +kernel)) rfl⟩, rfl, fun q => absurd rfl q⟩, trivial, trivial, ⟨_, _, _, rfl, ⟨(RX5, TX5, 8), rfl, by decide, gT_of (List.mem_of_getElem? (i := 192) (by decide +kernel)) rfl⟩, rfl⟩, ⟨_, _, _, rfl, ⟨(RX0, TX0, 7), rfl, by decide, gT_of (List.mem_of_getElem? (i := 114) (by decide +kernel)) rfl⟩, rfl⟩, trivial, trivial, ⟨_, _, _, _, _, _, _, _, _, rfl, c_X1_leaveNothing l, Or.inl ⟨by decide, yv_X1_leaveNothing⟩, by decide, gT_of (List.mem_of_getElem? (i := 556) (by decide +kernel)) rfl⟩, trivial, trivial⟩
theorem b_X5_suppose__0 : atL L_X5_suppose_ 0 = L_X5_suppose__0 := rfl
theorem b_X5_suppose__32 : atL L_X5_suppose_ 32 = L_X5_suppose__32 := rfl
theorem b_X5_suppose__43 : atL L_X5_suppose_ 43 = L_X5_suppose__43 := rfl
theorem b_X5_suppose__59 : atL L_X5_suppose_ 59 = L_X5_suppose__59 := rfl
theorem b_X5_suppose__75 : atL L_X5_suppose_ 75 = L_X5_suppose__75 := rfl
theorem b_X5_suppose__87 : atL L_X5_suppose_ 87 = L_X5_suppose__87 := rfl
theorem a_X5_suppose__32 : afw L_X5_suppose_ [] 32 = L_X5_suppose__32 := rfl
theorem a_X5_suppose__43 : afw L_X5_suppose_ [] 43 = L_X5_suppose__43 := rfl
theorem a_X5_suppose__59 : afw L_X5_suppose_ [] 59 = L_X5_suppose__59 := rfl
theorem a_X5_suppose__75 : afw L_X5_suppose_ [] 75 = L_X5_suppose__75 := rfl
theorem a_X5_suppose__87 : afw L_X5_suppose_ [] 87 = L_X5_suppose__87 := rfl
theorem yv_X5_suppose_ : YV yX5_suppose_ cX5_suppose_ 4 none 3 5 := ⟨⟨gT_of (List.mem_of_getElem? (i := 555) (by decide +kernel)) rfl, gT_of (List.mem_of_getElem? (i := 26) (by decide +kernel)) rfl, ⟨by decide, by decide⟩, by decide +kernel, by decide⟩, gT_of (List.mem_of_getElem? (i := 554) (by decide +kernel)) rfl, gT_of (List.mem_of_getElem? (i := 19) (by decide +kernel)) rfl, rfl⟩
theorem u_X5_suppose__0 : L_X5_suppose__0 = (0, .aload_n 0, [], nS) :: (1, .invokevirtual 209, [0, 5, 0, 0], S_X5_suppose) :: (4, .iload_n 1, [], nS) :: (5, .tableswitch 70 0 2 #[27, 38, 54], [32, 43, 59, 75], nS) :: L_X5_suppose__32 := nr rfl
theorem u_X5_suppose__32 : L_X5_suppose__32 = (32, .aload_n 0, [], nS) :: (33, .getfield 16, [5, 1, 1], nS) :: (36, .iload_n 3, [], nS) :: (37, .putfield 138, [0, 2, 0], nS) :: (40, .goto 47, [87], nS) :: L_X5_suppose__43 := nr rfl
theorem u_X5_suppose__43 : L_X5_suppose__43 = (43, .aload_n 0, [], nS) :: (44, .getfield 16, [5, 1, 1], nS) :: (47, .getfield 117, [0, 6, 1], nS) :: (50, .iload_n 2, [], nS) :: (51, .aaload, [], nS) :: (52, .iload_n 3, [], nS) :: (53, .putfield 162, [1, 0, 0], nS) :: (56, .goto 31, [87], nS) :: L_X5_suppose__59 := nr rfl
theorem u_X5_suppose__59 : L_X5_suppose__59 = (59, .aload_n 0, [], nS) :: (60, .getfield 16, [5, 1, 1], nS) :: (63, .getfield 117, [0, 6, 1], nS) :: (66, .iload_n 2, [], nS) :: (67, .aaload, [], nS) :: (68, .iload_n 3, [], nS) :: (69, .putfield 165, [1, 1, 0], nS) :: (72, .goto 15, [87], nS) :: L_X5_suppose__75 := nr rfl
theorem u_X5_suppose__75 : L_X5_suppose__75 = (75, .aload_n 0, [], nS) :: (76, .getfield 16, [5, 1, 1], nS) :: (79, .getfield 117, [0, 6, 1], nS) :: (82, .iload_n 3, [], nS) :: (83, .aaload, [], nS) :: (84, .invokevirtual 314, [0, 1, 0, 0], S_X1_leaveNothing) :: L_X5_suppose__87 := nr rfl
theorem u_X5_suppose__87 : L_X5_suppose__87 = (87, .return_, [], nS) :: [] := nr rfl
theorem z_X5_suppose__0 : atL L_X5_suppose_ 0 = L_X5_suppose__0 := nr rfl
theorem z_X5_suppose__32 : atL L_X5_suppose_ 32 = L_X5_suppose__32 := nr rfl
theorem z_X5_suppose__43 : atL L_X5_suppose_ 43 = L_X5_suppose__43 := nr rfl
theorem z_X5_suppose__59 : atL L_X5_suppose_ 59 = L_X5_suppose__59 := nr rfl
theorem z_X5_suppose__75 : atL L_X5_suppose_ 75 = L_X5_suppose__75 := nr rfl
theorem z_X5_suppose__87 : atL L_X5_suppose_ 87 = L_X5_suppose__87 := nr rfl
theorem j_X5_suppose__32 {G : List Item → SpS → List Value → List Value → AH → Prop} {J : Nat → SpS → List Value → List Value → AH → Prop} {S : SpS} {lv st : List Value} {h : AH} : jmp G J (afw L_X5_suppose_ [] 32) 32 S lv st h = G L_X5_suppose__32 S lv st h := nr rfl
theorem j_X5_suppose__43 {G : List Item → SpS → List Value → List Value → AH → Prop} {J : Nat → SpS → List Value → List Value → AH → Prop} {S : SpS} {lv st : List Value} {h : AH} : jmp G J (afw L_X5_suppose_ [] 43) 43 S lv st h = G L_X5_suppose__43 S lv st h := nr rfl
theorem j_X5_suppose__59 {G : List Item → SpS → List Value → List Value → AH → Prop} {J : Nat → SpS → List Value → List Value → AH → Prop} {S : SpS} {lv st : List Value} {h : AH} : jmp G J (afw L_X5_suppose_ [] 59) 59 S lv st h = G L_X5_suppose__59 S lv st h := nr rfl
theorem j_X5_suppose__75 {G : List Item → SpS → List Value → List Value → AH → Prop} {J : Nat → SpS → List Value → List Value → AH → Prop} {S : SpS} {lv st : List Value} {h : AH} : jmp G J (afw L_X5_suppose_ [] 75) 75 S lv st h = G L_X5_suppose__75 S lv st h := nr rfl
theorem j_X5_suppose__87 {G : List Item → SpS → List Value → List Value → AH → Prop} {J : Nat → SpS → List Value → List Value → AH → Prop} {S : SpS} {lv st : List Value} {h : AH} : jmp G J (afw L_X5_suppose_ [] 87) 87 S lv st h = G L_X5_suppose__87 S lv st h := nr rfl
theorem e_X5_suppose_ {x : Addr} {k : Int32} {i : Int32} {c : Int32} {h : AH} {K2 : Option Value → SpS → AH → Prop} : S_X5_suppose_ (SHn nn) [.ref x, .int k, .int i, .int c] h K2 = (fun (K : Option Value → AH → Prop) => x = 0 ∧ okE (est h 1) ∧ ∃ E', supR (est h 1) k i c E' ∧ ∀ h', est h' 14 = E' → frE 14 h h' → K none h') (fun v h' => K2 v (SHn nn) h') := (lift_e P_X5_suppose_ [.ref x, .int k, .int i, .int c] h K2).trans (nr rfl)
set_option maxRecDepth 100000 in
set_option maxHeartbeats 4000000 in
theorem c_X5_suppose_ (l : Launch) : Ct l yX5_suppose_ cX5_suppose_ 4 none 4 0 0 S_X5_suppose_ := by
  refine Ct0_mk L_X5_suppose_ [] (by decide +kernel) (by decide) ok_X5_suppose_ (lk_X5_suppose_ l) ?_
  intro nn as h K hP
  match as, hP with
  | [.ref x, .int k, .int i, .int c], ⟨hx, ho, E', hE', hK⟩ =>
  refine ⟨by simp [slotsN, Value.category], fun J hJ => ?_⟩
  subst hx
  have hn := ho.2.1
  have hcn : ∀ h1, est h1 14 = supE (est h 1) → cnt (est h1 14) = cnt (est h 1) := fun h1 p1 => by rw [p1, cnt_sup]
  rcases hE' with ⟨rfl, hc, rfl⟩ | ⟨rfl, j, hj, rfl, rfl⟩ | ⟨rfl, j, hj, rfl, rfl⟩ | ⟨rfl, j, hj, rfl, rfl⟩
  · refine hJ 0 _ _ _ _ ?_
    simp only [z_X5_suppose__0, u_X5_suppose__0, u_X5_suppose__32, u_X5_suppose__43, u_X5_suppose__59, u_X5_suppose__75, u_X5_suppose__87, j_X5_suppose__32, j_X5_suppose__43, j_X5_suppose__59, j_X5_suppose__75, j_X5_suppose__87, ev_aload_n0, ev_callV0, ev_iload_n1, ev_tableswitch, ev_sw1, ev_swc, ev_getfR, ev_iload_n3, ev_putfI, ev_goto, ev_iload_n2, ev_aaload, ev_vret, ↓e_X1_leaveNothing, ↓e_X5_suppose, capO_z, kb_6, kb_11, kb_13, kb_15, kb_17, kb_18, kb_19, kb_23, kb_24, kb_25, kb_26, kb_29, kb_31, kb_35, kb_37, kb_41, kb_43, kb_44, kb_61, kb_75, kb_104, kb_7, kb_8, kb_9, kb_10, kb_12, kb_16, kb_20, kb_21, kb_30, kb_32, kb_40, kb_48, kb_50, kb_57, kb_59, kb_60, kb_63, kb_70, kb_78, kb_81, kb_82, kb_84, kb_97, kb_99, kb_100, kb_101, kb_119, kb_120, kb_122, ki_m1, ki_0, ki_1, ki_2, ki_3, ki_4, ki_5, ki_6, ki_7, ki_8, ki_9, ki_10, ki_11, ki_12, ki_13, ki_14, ki_15, ki_16, ki_17, ki_18, ki_19, ki_20, ki_21, ki_22, ki_23, ki_24, ki_25, ki_26, ki_27, ki_28, ki_29, ki_30, ki_31, ki_32, ki_33, ki_34, ki_35, ki_36, ki_37, ki_38, ki_39, ki_40, ki_41, ki_42, ki_43, ki_44, ki_45, ki_46, ki_47, ki_48, ki_49, ki_50, ki_51, ki_52, ki_53, ki_54, ki_55, ki_56, ki_57, ki_58, ki_59, ki_60, ki_61, ki_62, ki_63, ks_m2000, ks_m1006, ks_m1005, ks_m1004, ks_m1003, ks_m1002, ks_m1000, ks_200, ks_201, ks_300, ks_720, ks_9000, ks_10000, ks_250, ks_255, ks_256, ks_320, ks_660, ks_999, ks_1000, ks_9999, ks_12345, ne_2, ne_10, t_0, t_40, t_41, t_42, t_43, t_44, t_45, t_46, t_47, r_0_0, r_0_1, r_0_2, r_0_4, r_0_5, r_0_6, r_0_7, r_40_0, r_40_5, r_44_0, r_44_1, t_1, t_14, t_27, t_2, t_15, t_28, t_64, Nat.reduceEqDiff, ne_eq, not_false_eq_true, false_implies, true_implies, implies_true, Nat.reduceAdd, Nat.reduceLeDiff, Nat.reduceLT, Nat.reduceMul, or_true, true_or, if_true, if_false, not_true_eq_false, and_self, bF, Nat.reduceBEq, Bool.false_and, Bool.and_false, Bool.or_self, Bool.or_false, Bool.false_or, Bool.false_eq_true, Int.reduceAdd, Bool.and_self, Bool.true_and, Bool.and_true, beq_self_eq_true, not_not_, i10_, i01_, List.length_nil, List.length_cons, true_and, and_true, false_and, and_false, kl_i, kl_a, kl_n, kl_l, tl_s, tl_n, rv_S, pd_0, pd_e, pd_r, pd_i, pd_l, k01, k02, imp_f, imp_t, not_f]
    refine ⟨ho, fun h1 p1 p2 => ?_⟩
    exact hK _ (by rw [est_pS (by omega), p1]) (frE_s p2)
  · have hj10 : j < 10 := by omega
    refine hJ 0 _ _ _ _ ?_
    simp only [z_X5_suppose__0, u_X5_suppose__0, u_X5_suppose__32, u_X5_suppose__43, u_X5_suppose__59, u_X5_suppose__75, u_X5_suppose__87, j_X5_suppose__32, j_X5_suppose__43, j_X5_suppose__59, j_X5_suppose__75, j_X5_suppose__87, ev_aload_n0, ev_callV0, ev_iload_n1, ev_tableswitch, ev_sw1, ev_swc, ev_getfR, ev_iload_n3, ev_putfI, ev_goto, ev_iload_n2, ev_aaload, ev_vret, ↓e_X1_leaveNothing, ↓e_X5_suppose, capO_z, kb_6, kb_11, kb_13, kb_15, kb_17, kb_18, kb_19, kb_23, kb_24, kb_25, kb_26, kb_29, kb_31, kb_35, kb_37, kb_41, kb_43, kb_44, kb_61, kb_75, kb_104, kb_7, kb_8, kb_9, kb_10, kb_12, kb_16, kb_20, kb_21, kb_30, kb_32, kb_40, kb_48, kb_50, kb_57, kb_59, kb_60, kb_63, kb_70, kb_78, kb_81, kb_82, kb_84, kb_97, kb_99, kb_100, kb_101, kb_119, kb_120, kb_122, ki_m1, ki_0, ki_1, ki_2, ki_3, ki_4, ki_5, ki_6, ki_7, ki_8, ki_9, ki_10, ki_11, ki_12, ki_13, ki_14, ki_15, ki_16, ki_17, ki_18, ki_19, ki_20, ki_21, ki_22, ki_23, ki_24, ki_25, ki_26, ki_27, ki_28, ki_29, ki_30, ki_31, ki_32, ki_33, ki_34, ki_35, ki_36, ki_37, ki_38, ki_39, ki_40, ki_41, ki_42, ki_43, ki_44, ki_45, ki_46, ki_47, ki_48, ki_49, ki_50, ki_51, ki_52, ki_53, ki_54, ki_55, ki_56, ki_57, ki_58, ki_59, ki_60, ki_61, ki_62, ki_63, ks_m2000, ks_m1006, ks_m1005, ks_m1004, ks_m1003, ks_m1002, ks_m1000, ks_200, ks_201, ks_300, ks_720, ks_9000, ks_10000, ks_250, ks_255, ks_256, ks_320, ks_660, ks_999, ks_1000, ks_9999, ks_12345, ne_2, ne_10, t_0, t_40, t_41, t_42, t_43, t_44, t_45, t_46, t_47, r_0_0, r_0_1, r_0_2, r_0_4, r_0_5, r_0_6, r_0_7, r_40_0, r_40_5, r_44_0, r_44_1, t_1, t_14, t_27, t_2, t_15, t_28, t_64, Nat.reduceEqDiff, ne_eq, not_false_eq_true, false_implies, true_implies, implies_true, Nat.reduceAdd, Nat.reduceLeDiff, Nat.reduceLT, Nat.reduceMul, or_true, true_or, if_true, if_false, not_true_eq_false, and_self, bF, Nat.reduceBEq, Bool.false_and, Bool.and_false, Bool.or_self, Bool.or_false, Bool.false_or, Bool.false_eq_true, Int.reduceAdd, Bool.and_self, Bool.true_and, Bool.and_true, beq_self_eq_true, not_not_, i10_, i01_, List.length_nil, List.length_cons, true_and, and_true, false_and, and_false, kl_i, kl_a, kl_n, kl_l, tl_s, tl_n, rv_S, pd_0, pd_e, pd_r, pd_i, pd_l, k10, k12, imp_f, imp_t, not_f, tE isE14, tE2 isE14, rE6 isE14, rEH isE14 hj10, tEH isE14 hj10, vp10 hj10, nI_10 hj10]
    refine ⟨ho, fun h1 p1 p2 => ?_⟩
    exact hK _ (by rw [est_pF (by rw [hcn _ p1]; exact hj) (by omega), p1]) (frE_f p2 hj10)
  · have hj10 : j < 10 := by omega
    refine hJ 0 _ _ _ _ ?_
    simp only [z_X5_suppose__0, u_X5_suppose__0, u_X5_suppose__32, u_X5_suppose__43, u_X5_suppose__59, u_X5_suppose__75, u_X5_suppose__87, j_X5_suppose__32, j_X5_suppose__43, j_X5_suppose__59, j_X5_suppose__75, j_X5_suppose__87, ev_aload_n0, ev_callV0, ev_iload_n1, ev_tableswitch, ev_sw1, ev_swc, ev_getfR, ev_iload_n3, ev_putfI, ev_goto, ev_iload_n2, ev_aaload, ev_vret, ↓e_X1_leaveNothing, ↓e_X5_suppose, capO_z, kb_6, kb_11, kb_13, kb_15, kb_17, kb_18, kb_19, kb_23, kb_24, kb_25, kb_26, kb_29, kb_31, kb_35, kb_37, kb_41, kb_43, kb_44, kb_61, kb_75, kb_104, kb_7, kb_8, kb_9, kb_10, kb_12, kb_16, kb_20, kb_21, kb_30, kb_32, kb_40, kb_48, kb_50, kb_57, kb_59, kb_60, kb_63, kb_70, kb_78, kb_81, kb_82, kb_84, kb_97, kb_99, kb_100, kb_101, kb_119, kb_120, kb_122, ki_m1, ki_0, ki_1, ki_2, ki_3, ki_4, ki_5, ki_6, ki_7, ki_8, ki_9, ki_10, ki_11, ki_12, ki_13, ki_14, ki_15, ki_16, ki_17, ki_18, ki_19, ki_20, ki_21, ki_22, ki_23, ki_24, ki_25, ki_26, ki_27, ki_28, ki_29, ki_30, ki_31, ki_32, ki_33, ki_34, ki_35, ki_36, ki_37, ki_38, ki_39, ki_40, ki_41, ki_42, ki_43, ki_44, ki_45, ki_46, ki_47, ki_48, ki_49, ki_50, ki_51, ki_52, ki_53, ki_54, ki_55, ki_56, ki_57, ki_58, ki_59, ki_60, ki_61, ki_62, ki_63, ks_m2000, ks_m1006, ks_m1005, ks_m1004, ks_m1003, ks_m1002, ks_m1000, ks_200, ks_201, ks_300, ks_720, ks_9000, ks_10000, ks_250, ks_255, ks_256, ks_320, ks_660, ks_999, ks_1000, ks_9999, ks_12345, ne_2, ne_10, t_0, t_40, t_41, t_42, t_43, t_44, t_45, t_46, t_47, r_0_0, r_0_1, r_0_2, r_0_4, r_0_5, r_0_6, r_0_7, r_40_0, r_40_5, r_44_0, r_44_1, t_1, t_14, t_27, t_2, t_15, t_28, t_64, Nat.reduceEqDiff, ne_eq, not_false_eq_true, false_implies, true_implies, implies_true, Nat.reduceAdd, Nat.reduceLeDiff, Nat.reduceLT, Nat.reduceMul, or_true, true_or, if_true, if_false, not_true_eq_false, and_self, bF, Nat.reduceBEq, Bool.false_and, Bool.and_false, Bool.or_self, Bool.or_false, Bool.false_or, Bool.false_eq_true, Int.reduceAdd, Bool.and_self, Bool.true_and, Bool.and_true, beq_self_eq_true, not_not_, i10_, i01_, List.length_nil, List.length_cons, true_and, and_true, false_and, and_false, kl_i, kl_a, kl_n, kl_l, tl_s, tl_n, rv_S, pd_0, pd_e, pd_r, pd_i, pd_l, k20, k21, imp_f, imp_t, not_f, tE isE14, tE2 isE14, rE6 isE14, rEH isE14 hj10, tEH isE14 hj10, vp10 hj10, nI_10 hj10]
    refine ⟨ho, fun h1 p1 p2 => ?_⟩
    exact hK _ (by rw [est_pF (by rw [hcn _ p1]; exact hj) (by omega), p1]) (frE_f p2 hj10)
  · have hj10 : j < 10 := by omega
    refine hJ 0 _ _ _ _ ?_
    simp only [z_X5_suppose__0, u_X5_suppose__0, u_X5_suppose__32, u_X5_suppose__43, u_X5_suppose__59, u_X5_suppose__75, u_X5_suppose__87, j_X5_suppose__32, j_X5_suppose__43, j_X5_suppose__59, j_X5_suppose__75, j_X5_suppose__87, ev_aload_n0, ev_callV0, ev_iload_n1, ev_tableswitch, ev_sw1, ev_swc, ev_getfR, ev_iload_n3, ev_putfI, ev_goto, ev_iload_n2, ev_aaload, ev_vret, ↓e_X1_leaveNothing, ↓e_X5_suppose, capO_z, kb_6, kb_11, kb_13, kb_15, kb_17, kb_18, kb_19, kb_23, kb_24, kb_25, kb_26, kb_29, kb_31, kb_35, kb_37, kb_41, kb_43, kb_44, kb_61, kb_75, kb_104, kb_7, kb_8, kb_9, kb_10, kb_12, kb_16, kb_20, kb_21, kb_30, kb_32, kb_40, kb_48, kb_50, kb_57, kb_59, kb_60, kb_63, kb_70, kb_78, kb_81, kb_82, kb_84, kb_97, kb_99, kb_100, kb_101, kb_119, kb_120, kb_122, ki_m1, ki_0, ki_1, ki_2, ki_3, ki_4, ki_5, ki_6, ki_7, ki_8, ki_9, ki_10, ki_11, ki_12, ki_13, ki_14, ki_15, ki_16, ki_17, ki_18, ki_19, ki_20, ki_21, ki_22, ki_23, ki_24, ki_25, ki_26, ki_27, ki_28, ki_29, ki_30, ki_31, ki_32, ki_33, ki_34, ki_35, ki_36, ki_37, ki_38, ki_39, ki_40, ki_41, ki_42, ki_43, ki_44, ki_45, ki_46, ki_47, ki_48, ki_49, ki_50, ki_51, ki_52, ki_53, ki_54, ki_55, ki_56, ki_57, ki_58, ki_59, ki_60, ki_61, ki_62, ki_63, ks_m2000, ks_m1006, ks_m1005, ks_m1004, ks_m1003, ks_m1002, ks_m1000, ks_200, ks_201, ks_300, ks_720, ks_9000, ks_10000, ks_250, ks_255, ks_256, ks_320, ks_660, ks_999, ks_1000, ks_9999, ks_12345, ne_2, ne_10, t_0, t_40, t_41, t_42, t_43, t_44, t_45, t_46, t_47, r_0_0, r_0_1, r_0_2, r_0_4, r_0_5, r_0_6, r_0_7, r_40_0, r_40_5, r_44_0, r_44_1, t_1, t_14, t_27, t_2, t_15, t_28, t_64, Nat.reduceEqDiff, ne_eq, not_false_eq_true, false_implies, true_implies, implies_true, Nat.reduceAdd, Nat.reduceLeDiff, Nat.reduceLT, Nat.reduceMul, or_true, true_or, if_true, if_false, not_true_eq_false, and_self, bF, Nat.reduceBEq, Bool.false_and, Bool.and_false, Bool.or_self, Bool.or_false, Bool.false_or, Bool.false_eq_true, Int.reduceAdd, Bool.and_self, Bool.true_and, Bool.and_true, beq_self_eq_true, not_not_, i10_, i01_, List.length_nil, List.length_cons, true_and, and_true, false_and, and_false, kl_i, kl_a, kl_n, kl_l, tl_s, tl_n, rv_S, pd_0, pd_e, pd_r, pd_i, pd_l, k30, k31, k32, imp_f, imp_t, not_f, tE isE14, tE2 isE14, rE6 isE14, rEH isE14 hj10, tEH isE14 hj10, vp10 hj10, nI_10 hj10]
    refine ⟨ho, fun h1 p1 p2 => ?_⟩
    exact hK _ (by rw [est_pF (by rw [cnt_pF, hcn _ p1]; exact hj) (by omega), est_pF (by rw [hcn _ p1]; exact hj) (by omega), p1]) (frE_f (frE_f p2 hj10) hj10)
def supC (E : ES) (k : Int32) (i : Nat) (c : Nat) : ES := if k = 0 then sS (supE E) 2 (nI c) else if k = 1 then sF (supE E) i 0 (nI c) else if k = 2 then sF (supE E) i 1 (nI c) else sF (sF (supE E) c 6 2) c 4 0
theorem same_ok {E E' : ES} (h4 : eS E' 4 = eS E 4) (h2 : eS E' 2 = eS E 2 ∨ eS E' 2 = 0 ∨ eS E' 2 = 1 ∨ eS E' 2 = 2) (ho : okE E) : okE E' := by
  have e : cnt E' = cnt E := by unfold cnt; rw [h4]
  refine ⟨by rw [h4, e]; exact ho.1, by rw [e]; exact ho.2.1, ?_⟩
  rcases h2 with q | q
  · rw [q]; exact ho.2.2
  · exact q
theorem ok_sF {E : ES} {i k : Nat} {v : Int32} (ho : okE E) : okE (sF E i k v) := same_ok rfl (Or.inl rfl) ho
theorem supR_ok {E : ES} {k i c : Int32} {E' : ES} (hq : supR E k i c E') (ho : okE E) : okE E' := by
  have h3 := ok_sup ho
  rcases hq with ⟨-, hc, rfl⟩ | ⟨-, j, -, -, rfl⟩ | ⟨-, j, -, -, rfl⟩ | ⟨-, j, -, -, rfl⟩
  · exact same_ok (E := supE E) rfl (Or.inr hc) h3
  · exact ok_sF h3
  · exact ok_sF h3
  · exact ok_sF (ok_sF h3)
def lateN (f : Nat → Int32) (m : Nat) : Int32 × Int32 := forN m (fun c p => if p.2 < f c then (nI c, f c) else p) (0, -1)
theorem lateN_s (f : Nat → Int32) (a : Nat) : lateN f (a + 1) = if (lateN f a).2 < f a then (nI a, f a) else lateN f a := rfl
/-- what may be chosen among: all RULES, all KINDS of i, all HEIRS -/
def supO (E : ES) (k i : Int32) (j m : Nat) : Prop := (k = 0 ∧ m ≤ 3) ∨ ((k = 1 ∨ k = 2) ∧ j < cnt E ∧ i = nI j ∧ m ≤ 10) ∨ (k = 3 ∧ m ≤ cnt E)
theorem supO_R {E : ES} {k i : Int32} {j m c : Nat} (ho : okE E) (hq : supO E k i j m) (hc : c < m) : supR E k i (nI c) (supC E k j c) := by
  rcases hq with ⟨rfl, q⟩ | ⟨rfl | rfl, q1, q2, q3⟩ | ⟨rfl, q⟩
  · refine Or.inl ⟨rfl, ?_, by simp [supC]⟩
    rcases (show c = 0 ∨ c = 1 ∨ c = 2 by omega) with rfl | rfl | rfl <;> decide
  · exact Or.inr (Or.inl ⟨rfl, j, q1, q2, by simp [supC, k10]⟩)
  · exact Or.inr (Or.inr (Or.inl ⟨rfl, j, q1, q2, by simp [supC, k20, k21]⟩))
  · exact Or.inr (Or.inr (Or.inr ⟨rfl, c, by omega, rfl, by simp [supC, k30, k31, k32]⟩))
theorem supO_10 {E : ES} {k i : Int32} {j m : Nat} (ho : okE E) (hq : supO E k i j m) : m ≤ 10 := by
  have := ho.2.1
  rcases hq with ⟨rfl, q⟩ | ⟨-, q1, q2, q3⟩ | ⟨rfl, q⟩ <;> omega
theorem n200 : nI 200 = 200 := by decide
def outI (E : ES) : Int32 := nI (untilE 0 200 E)
def P_X5_latestBy : Sp0T := fun as h K => match as with
  | [.ref x, .int k, .int i, .int n] => x = 0 ∧ okE (est h 1) ∧ ∃ j m : Nat, n = nI m ∧ supO (est h 1) k i j m ∧ ∀ h', frE 14 h h' → K (some (.int (lateN (fun c => outI (supC (est h 1) k j c)) m).1)) h'
  | _ => False
def S_X5_latestBy : SpT := lift P_X5_latestBy
def L_X5_latestBy_56 : List Item := (56, .iload 4, [], nS) :: (58, .ireturn, [], nS) :: []
def L_X5_latestBy_50 : List Item := (50, .iinc 6 1, [], nS) :: (53, .goto (-44), [9], nS) :: L_X5_latestBy_56
def L_X5_latestBy_9 : List Item := (9, .iload 6, [], nS) :: (11, .iload_n 3, [], nS) :: (12, .if_icmp .ge 44, [56], nS) :: (15, .aload_n 0, [], nS) :: (16, .iload_n 1, [], nS) :: (17, .iload_n 2, [], nS) :: (18, .iload 6, [], nS) :: (20, .invokevirtual 225, [3, 5, 0, 0], S_X5_suppose_) :: (23, .aload_n 0, [], nS) :: (24, .getfield 16, [5, 1, 1], nS) :: (27, .sipush 200, [], nS) :: (30, .invokevirtual 212, [1, 0, 0, 0], S_X0_yearsUntilEmpty) :: (33, .istore 7, [], nS) :: (35, .iload 7, [], nS) :: (37, .iload 5, [], nS) :: (39, .if_icmp .le 11, [50], nS) :: (42, .iload 7, [], nS) :: (44, .istore 5, [], nS) :: (46, .iload 6, [], nS) :: (48, .istore 4, [], nS) :: L_X5_latestBy_50
def L_X5_latestBy_0 : List Item := (0, .iconst 0, [], nS) :: (1, .istore 4, [], nS) :: (3, .iconst (-1), [], nS) :: (4, .istore 5, [], nS) :: (6, .iconst 0, [], nS) :: (7, .istore 6, [], nS) :: (9, .nop, [], nS) :: L_X5_latestBy_9
def L_X5_latestBy : List Item := L_X5_latestBy_0
theorem ok_X5_latestBy : okB cX5_latestBy L_X5_latestBy = true := by decide +kernel
theorem lk_X5_latestBy (l : Launch) : LKs l RX5 7 false L_X5_latestBy := ⟨trivial, trivial, trivial, trivial, trivial, trivial, trivial, trivial, trivial, trivial, trivial, trivial, trivial, trivial, ⟨_, _, _, _, _, _, _, _, _, rfl, c_X5_suppose_ l, Or.inl ⟨by decide, yv_X5_suppose_⟩, by decide, gT_of (List.mem_of_getElem? (i := 552) (by decide +kernel)) rfl⟩, trivial, ⟨_, _, _, rfl, ⟨(RX5, TX5, 8), rfl, by decide, gT_of (List.mem_of_getElem? (i := 192) (by decide +kernel)) rfl⟩, rfl⟩, trivial, ⟨_, _, _, _, _, _, _, _, _, rfl, c_X0_yearsUntilEmpty l, Or.inl ⟨by decide, yv_X0_yearsUntilEmpty⟩, by decide, gT_of (List.mem_of_getElem? (i := 540) (by decide +kernel)) rfl⟩, trivial, trivial, trivial, trivial, trivial, trivial, trivial, trivial, trivial, trivial, trivial, trivial, trivial⟩
theorem b_X5_latestBy_0 : atL L_X5_latestBy 0 = L_X5_latestBy_0 := rfl
theorem b_X5_latestBy_9 : atL L_X5_latestBy 9 = L_X5_latestBy_9 := rfl
theorem b_X5_latestBy_50 : atL L_X5_latestBy 50 = L_X5_latestBy_50 := rfl
theorem b_X5_latestBy_56 : atL L_X5_latestBy 56 = L_X5_latestBy_56 := rfl
theorem a_X5_latestBy_50 : afw L_X5_latestBy [9] 50 = L_X5_latestBy_50 := rfl
theorem a_X5_latestBy_56 : afw L_X5_latestBy [9] 56 = L_X5_latestBy_56 := rfl
theorem a_X5_latestBy_9 : afw L_X5_latestBy [9] 9 = [] := rfl
theorem yv_X5_latestBy : YV yX5_latestBy cX5_latestBy 8 (some .int) 3 5 := ⟨⟨gT_of (List.mem_of_getElem? (i := 551) (by decide +kernel)) rfl, gT_of (List.mem_of_getElem? (i := 26) (by decide +kernel)) rfl, ⟨by decide, by decide⟩, by decide +kernel, by decide⟩, gT_of (List.mem_of_getElem? (i := 550) (by decide +kernel)) rfl, gT_of (List.mem_of_getElem? (i := 18) (by decide +kernel)) rfl, rfl⟩
theorem u_X5_latestBy_0 : L_X5_latestBy_0 = (0, .iconst 0, [], nS) :: (1, .istore 4, [], nS) :: (3, .iconst (-1), [], nS) :: (4, .istore 5, [], nS) :: (6, .iconst 0, [], nS) :: (7, .istore 6, [], nS) :: (9, .nop, [], nS) :: L_X5_latestBy_9 := nr rfl
theorem u_X5_latestBy_9 : L_X5_latestBy_9 = (9, .iload 6, [], nS) :: (11, .iload_n 3, [], nS) :: (12, .if_icmp .ge 44, [56], nS) :: (15, .aload_n 0, [], nS) :: (16, .iload_n 1, [], nS) :: (17, .iload_n 2, [], nS) :: (18, .iload 6, [], nS) :: (20, .invokevirtual 225, [3, 5, 0, 0], S_X5_suppose_) :: (23, .aload_n 0, [], nS) :: (24, .getfield 16, [5, 1, 1], nS) :: (27, .sipush 200, [], nS) :: (30, .invokevirtual 212, [1, 0, 0, 0], S_X0_yearsUntilEmpty) :: (33, .istore 7, [], nS) :: (35, .iload 7, [], nS) :: (37, .iload 5, [], nS) :: (39, .if_icmp .le 11, [50], nS) :: (42, .iload 7, [], nS) :: (44, .istore 5, [], nS) :: (46, .iload 6, [], nS) :: (48, .istore 4, [], nS) :: L_X5_latestBy_50 := nr rfl
theorem u_X5_latestBy_50 : L_X5_latestBy_50 = (50, .iinc 6 1, [], nS) :: (53, .goto (-44), [9], nS) :: L_X5_latestBy_56 := nr rfl
theorem u_X5_latestBy_56 : L_X5_latestBy_56 = (56, .iload 4, [], nS) :: (58, .ireturn, [], nS) :: [] := nr rfl
theorem z_X5_latestBy_0 : atL L_X5_latestBy 0 = L_X5_latestBy_0 := nr rfl
theorem z_X5_latestBy_9 : atL L_X5_latestBy 9 = L_X5_latestBy_9 := nr rfl
theorem z_X5_latestBy_50 : atL L_X5_latestBy 50 = L_X5_latestBy_50 := nr rfl
theorem z_X5_latestBy_56 : atL L_X5_latestBy 56 = L_X5_latestBy_56 := nr rfl
theorem j_X5_latestBy_50 {G : List Item → SpS → List Value → List Value → AH → Prop} {J : Nat → SpS → List Value → List Value → AH → Prop} {S : SpS} {lv st : List Value} {h : AH} : jmp G J (afw L_X5_latestBy [9] 50) 50 S lv st h = G L_X5_latestBy_50 S lv st h := nr rfl
theorem j_X5_latestBy_56 {G : List Item → SpS → List Value → List Value → AH → Prop} {J : Nat → SpS → List Value → List Value → AH → Prop} {S : SpS} {lv st : List Value} {h : AH} : jmp G J (afw L_X5_latestBy [9] 56) 56 S lv st h = G L_X5_latestBy_56 S lv st h := nr rfl
theorem j_X5_latestBy_9 {G : List Item → SpS → List Value → List Value → AH → Prop} {J : Nat → SpS → List Value → List Value → AH → Prop} {S : SpS} {lv st : List Value} {h : AH} : jmp G J (afw L_X5_latestBy [9] 9) 9 S lv st h = J 9 S lv st h := nr rfl
theorem e_X5_latestBy {x : Addr} {k : Int32} {i : Int32} {n : Int32} {h : AH} {K2 : Option Value → SpS → AH → Prop} : S_X5_latestBy (SHn nn) [.ref x, .int k, .int i, .int n] h K2 = (fun (K : Option Value → AH → Prop) => x = 0 ∧ okE (est h 1) ∧ ∃ j m : Nat, n = nI m ∧ supO (est h 1) k i j m ∧ ∀ h', frE 14 h h' → K (some (.int (lateN (fun c => outI (supC (est h 1) k j c)) m).1)) h') (fun v h' => K2 v (SHn nn) h') := (lift_e P_X5_latestBy [.ref x, .int k, .int i, .int n] h K2).trans (nr rfl)
set_option maxRecDepth 100000 in
set_option maxHeartbeats 4000000 in
theorem c_X5_latestBy (l : Launch) : Ct l yX5_latestBy cX5_latestBy 8 (some .int) 7 0 0 S_X5_latestBy := by
  refine Ct0_mk L_X5_latestBy [9] (by decide +kernel) (by decide) ok_X5_latestBy (lk_X5_latestBy l) ?_
  intro nn as h K hP
  match as, hP with
  | [.ref x, .int k, .int i, .int n], ⟨hx, ho, j, m, hn, hO, hK⟩ =>
  refine ⟨by simp [slotsN, Value.category], fun J hJ => ?_⟩
  subst hx hn
  have hm := supO_10 ho hO
  generalize hf : (fun c => outI (supC (est h 1) k j c)) = f at *
  refine hJ 0 _ _ _ _ ?_
  simp only [z_X5_latestBy_0, u_X5_latestBy_0, u_X5_latestBy_9, u_X5_latestBy_50, u_X5_latestBy_56, j_X5_latestBy_9, j_X5_latestBy_50, j_X5_latestBy_56, ev_iconst, ev_istore4, ev_istore5, ev_istore6, ev_nop, ev_iload6, ev_iload_n3, ev_ic_ge, ev_aload_n0, ev_iload_n1, ev_iload_n2, ev_callV3, ev_getfR, ev_sipush, ev_callV1, ev_istore7, ev_iload7, ev_iload5, ev_ic_le, ev_iinc6, ev_goto, ev_iload4, ev_iret, ro_i, ro_z, ↓e_X0_yearsUntilEmpty, ↓e_X5_suppose_, capO_z, kb_6, kb_11, kb_13, kb_15, kb_17, kb_18, kb_19, kb_23, kb_24, kb_25, kb_26, kb_29, kb_31, kb_35, kb_37, kb_41, kb_43, kb_44, kb_61, kb_75, kb_104, kb_7, kb_8, kb_9, kb_10, kb_12, kb_16, kb_20, kb_21, kb_30, kb_32, kb_40, kb_48, kb_50, kb_57, kb_59, kb_60, kb_63, kb_70, kb_78, kb_81, kb_82, kb_84, kb_97, kb_99, kb_100, kb_101, kb_119, kb_120, kb_122, ki_m1, ki_0, ki_1, ki_2, ki_3, ki_4, ki_5, ki_6, ki_7, ki_8, ki_9, ki_10, ki_11, ki_12, ki_13, ki_14, ki_15, ki_16, ki_17, ki_18, ki_19, ki_20, ki_21, ki_22, ki_23, ki_24, ki_25, ki_26, ki_27, ki_28, ki_29, ki_30, ki_31, ki_32, ki_33, ki_34, ki_35, ki_36, ki_37, ki_38, ki_39, ki_40, ki_41, ki_42, ki_43, ki_44, ki_45, ki_46, ki_47, ki_48, ki_49, ki_50, ki_51, ki_52, ki_53, ki_54, ki_55, ki_56, ki_57, ki_58, ki_59, ki_60, ki_61, ki_62, ki_63, ks_m2000, ks_m1006, ks_m1005, ks_m1004, ks_m1003, ks_m1002, ks_m1000, ks_200, ks_201, ks_300, ks_720, ks_9000, ks_10000, ks_250, ks_255, ks_256, ks_320, ks_660, ks_999, ks_1000, ks_9999, ks_12345, ne_2, ne_10, t_0, t_40, t_41, t_42, t_43, t_44, t_45, t_46, t_47, r_0_0, r_0_1, r_0_2, r_0_4, r_0_5, r_0_6, r_0_7, r_40_0, r_40_5, r_44_0, r_44_1, t_1, t_14, t_27, t_2, t_15, t_28, t_64, Nat.reduceEqDiff, ne_eq, not_false_eq_true, false_implies, true_implies, implies_true, Nat.reduceAdd, Nat.reduceLeDiff, Nat.reduceLT, Nat.reduceMul, or_true, true_or, if_true, if_false, not_true_eq_false, and_self, bF, Nat.reduceBEq, Bool.false_and, Bool.and_false, Bool.or_self, Bool.or_false, Bool.false_or, Bool.false_eq_true, Int.reduceAdd, Bool.and_self, Bool.true_and, Bool.and_true, beq_self_eq_true, not_not_, i10_, i01_, List.length_nil, List.length_cons, true_and, and_true, false_and, and_false, kl_i, kl_a, kl_n, kl_l, tl_s, tl_n, rv_S, pd_0, pd_e, pd_r, pd_i, pd_l]
  refine dn (P := fun a => ∀ h' v, frE 14 h h' → J 9 (SHn nn) [.ref 0, .int k, .int i, .int (nI m), .int (lateN f a).1, .int (lateN f a).2, .int (nI a), v] [] h') m ?_ (fun a ha ih h' v hf2 => ?_) h .null (frE_rf 14 h)
  · intro h' v hf2
    refine hJ 9 _ _ _ _ ?_
    simp only [z_X5_latestBy_9, u_X5_latestBy_0, u_X5_latestBy_9, u_X5_latestBy_50, u_X5_latestBy_56, j_X5_latestBy_9, j_X5_latestBy_50, j_X5_latestBy_56, ev_iconst, ev_istore4, ev_istore5, ev_istore6, ev_nop, ev_iload6, ev_iload_n3, ev_ic_ge, ev_aload_n0, ev_iload_n1, ev_iload_n2, ev_callV3, ev_getfR, ev_sipush, ev_callV1, ev_istore7, ev_iload7, ev_iload5, ev_ic_le, ev_iinc6, ev_goto, ev_iload4, ev_iret, ro_i, ro_z, ↓e_X0_yearsUntilEmpty, ↓e_X5_suppose_, capO_z, kb_6, kb_11, kb_13, kb_15, kb_17, kb_18, kb_19, kb_23, kb_24, kb_25, kb_26, kb_29, kb_31, kb_35, kb_37, kb_41, kb_43, kb_44, kb_61, kb_75, kb_104, kb_7, kb_8, kb_9, kb_10, kb_12, kb_16, kb_20, kb_21, kb_30, kb_32, kb_40, kb_48, kb_50, kb_57, kb_59, kb_60, kb_63, kb_70, kb_78, kb_81, kb_82, kb_84, kb_97, kb_99, kb_100, kb_101, kb_119, kb_120, kb_122, ki_m1, ki_0, ki_1, ki_2, ki_3, ki_4, ki_5, ki_6, ki_7, ki_8, ki_9, ki_10, ki_11, ki_12, ki_13, ki_14, ki_15, ki_16, ki_17, ki_18, ki_19, ki_20, ki_21, ki_22, ki_23, ki_24, ki_25, ki_26, ki_27, ki_28, ki_29, ki_30, ki_31, ki_32, ki_33, ki_34, ki_35, ki_36, ki_37, ki_38, ki_39, ki_40, ki_41, ki_42, ki_43, ki_44, ki_45, ki_46, ki_47, ki_48, ki_49, ki_50, ki_51, ki_52, ki_53, ki_54, ki_55, ki_56, ki_57, ki_58, ki_59, ki_60, ki_61, ki_62, ki_63, ks_m2000, ks_m1006, ks_m1005, ks_m1004, ks_m1003, ks_m1002, ks_m1000, ks_200, ks_201, ks_300, ks_720, ks_9000, ks_10000, ks_250, ks_255, ks_256, ks_320, ks_660, ks_999, ks_1000, ks_9999, ks_12345, ne_2, ne_10, t_0, t_40, t_41, t_42, t_43, t_44, t_45, t_46, t_47, r_0_0, r_0_1, r_0_2, r_0_4, r_0_5, r_0_6, r_0_7, r_40_0, r_40_5, r_44_0, r_44_1, t_1, t_14, t_27, t_2, t_15, t_28, t_64, Nat.reduceEqDiff, ne_eq, not_false_eq_true, false_implies, true_implies, implies_true, Nat.reduceAdd, Nat.reduceLeDiff, Nat.reduceLT, Nat.reduceMul, or_true, true_or, if_true, if_false, not_true_eq_false, and_self, bF, Nat.reduceBEq, Bool.false_and, Bool.and_false, Bool.or_self, Bool.or_false, Bool.false_or, Bool.false_eq_true, Int.reduceAdd, Bool.and_self, Bool.true_and, Bool.and_true, beq_self_eq_true, not_not_, i10_, i01_, List.length_nil, List.length_cons, true_and, and_true, false_and, and_false, kl_i, kl_a, kl_n, kl_l, tl_s, tl_n, rv_S, pd_0, pd_e, pd_r, pd_i, pd_l, lpT10 hm]
    exact hK h' hf2
  · have e1 : est h' 1 = est h 1 := est_fr hf2 (by omega) ho.2.1
    refine hJ 9 _ _ _ _ ?_
    simp only [z_X5_latestBy_9, u_X5_latestBy_0, u_X5_latestBy_9, u_X5_latestBy_50, u_X5_latestBy_56, j_X5_latestBy_9, j_X5_latestBy_50, j_X5_latestBy_56, ev_iconst, ev_istore4, ev_istore5, ev_istore6, ev_nop, ev_iload6, ev_iload_n3, ev_ic_ge, ev_aload_n0, ev_iload_n1, ev_iload_n2, ev_callV3, ev_getfR, ev_sipush, ev_callV1, ev_istore7, ev_iload7, ev_iload5, ev_ic_le, ev_iinc6, ev_goto, ev_iload4, ev_iret, ro_i, ro_z, ↓e_X0_yearsUntilEmpty, ↓e_X5_suppose_, capO_z, kb_6, kb_11, kb_13, kb_15, kb_17, kb_18, kb_19, kb_23, kb_24, kb_25, kb_26, kb_29, kb_31, kb_35, kb_37, kb_41, kb_43, kb_44, kb_61, kb_75, kb_104, kb_7, kb_8, kb_9, kb_10, kb_12, kb_16, kb_20, kb_21, kb_30, kb_32, kb_40, kb_48, kb_50, kb_57, kb_59, kb_60, kb_63, kb_70, kb_78, kb_81, kb_82, kb_84, kb_97, kb_99, kb_100, kb_101, kb_119, kb_120, kb_122, ki_m1, ki_0, ki_1, ki_2, ki_3, ki_4, ki_5, ki_6, ki_7, ki_8, ki_9, ki_10, ki_11, ki_12, ki_13, ki_14, ki_15, ki_16, ki_17, ki_18, ki_19, ki_20, ki_21, ki_22, ki_23, ki_24, ki_25, ki_26, ki_27, ki_28, ki_29, ki_30, ki_31, ki_32, ki_33, ki_34, ki_35, ki_36, ki_37, ki_38, ki_39, ki_40, ki_41, ki_42, ki_43, ki_44, ki_45, ki_46, ki_47, ki_48, ki_49, ki_50, ki_51, ki_52, ki_53, ki_54, ki_55, ki_56, ki_57, ki_58, ki_59, ki_60, ki_61, ki_62, ki_63, ks_m2000, ks_m1006, ks_m1005, ks_m1004, ks_m1003, ks_m1002, ks_m1000, ks_200, ks_201, ks_300, ks_720, ks_9000, ks_10000, ks_250, ks_255, ks_256, ks_320, ks_660, ks_999, ks_1000, ks_9999, ks_12345, ne_2, ne_10, t_0, t_40, t_41, t_42, t_43, t_44, t_45, t_46, t_47, r_0_0, r_0_1, r_0_2, r_0_4, r_0_5, r_0_6, r_0_7, r_40_0, r_40_5, r_44_0, r_44_1, t_1, t_14, t_27, t_2, t_15, t_28, t_64, Nat.reduceEqDiff, ne_eq, not_false_eq_true, false_implies, true_implies, implies_true, Nat.reduceAdd, Nat.reduceLeDiff, Nat.reduceLT, Nat.reduceMul, or_true, true_or, if_true, if_false, not_true_eq_false, and_self, bF, Nat.reduceBEq, Bool.false_and, Bool.and_false, Bool.or_self, Bool.or_false, Bool.false_or, Bool.false_eq_true, Int.reduceAdd, Bool.and_self, Bool.true_and, Bool.and_true, beq_self_eq_true, not_not_, i10_, i01_, List.length_nil, List.length_cons, true_and, and_true, false_and, and_false, kl_i, kl_a, kl_n, kl_l, tl_s, tl_n, rv_S, pd_0, pd_e, pd_r, pd_i, pd_l, lpF10 ha hm, isE14t, nI_1, e1]
    refine ⟨ho, supC (est h 1) k j a, supO_R ho hO ha, fun h2 p1 p2 => ⟨?_, 200, by omega, n200.symm, fun h3 p3 => ?_⟩⟩
    · rw [p1]; exact supR_ok (supO_R ho hO ha) ho
    · have e2 : nI (untilE 0 200 (est h2 14)) = f a := by rw [← hf, p1]; rfl
      have ih2 := ih h3 (.int (f a)) (frE_tr hf2 (frE_tr p2 p3))
      rw [lateN_s] at ih2
      simp only [e2]
      refine ⟨fun q => ?_, fun q => ?_⟩
      · rw [if_neg (Int32.not_lt.mpr q)] at ih2
        exact ih2
      · rw [if_pos (Int32.not_le.mp q)] at ih2
        exact ih2
def P_X5_lookAhead : Sp0T := fun as h K => match as with
  | [.ref x, .int n] => x = 0 ∧ okE (est h 1) ∧ ∃ m : Nat, m < 2147483647 ∧ n = nI m ∧ ∀ h', est h' 14 = passN m (supE (est h 1)) → frE 14 h h' → K none h'
  | _ => False
def S_X5_lookAhead : SpT := lift P_X5_lookAhead
def L_X5_lookAhead_0 : List Item := (0, .aload_n 0, [], nS) :: (1, .invokevirtual 209, [0, 5, 0, 0], S_X5_suppose) :: (4, .aload_n 0, [], nS) :: (5, .getfield 16, [5, 1, 1], nS) :: (8, .iload_n 1, [], nS) :: (9, .invokevirtual 228, [1, 0, 0, 0], S_X0_pass) :: (12, .return_, [], nS) :: []
def L_X5_lookAhead : List Item := L_X5_lookAhead_0
theorem ok_X5_lookAhead : okB cX5_lookAhead L_X5_lookAhead = true := by decide +kernel
theorem lk_X5_lookAhead (l : Launch) : LKs l RX5 7 false L_X5_lookAhead := ⟨trivial, ⟨_, _, _, _, _, _, _, _, _, rfl, c_X5_suppose l, Or.inl ⟨by decide, yv_X5_suppose⟩, by decide, gT_of (List.mem_of_getElem? (i := 459) (by decide +kernel)) rfl⟩, trivial, ⟨_, _, _, rfl, ⟨(RX5, TX5, 8), rfl, by decide, gT_of (List.mem_of_getElem? (i := 192) (by decide +kernel)) rfl⟩, rfl⟩, trivial, ⟨_, _, _, _, _, _, _, _, _, rfl, c_X0_pass l, Or.inl ⟨by decide, yv_X0_pass⟩, by decide, gT_of (List.mem_of_getElem? (i := 467) (by decide +kernel)) rfl⟩, trivial, trivial⟩
theorem b_X5_lookAhead_0 : atL L_X5_lookAhead 0 = L_X5_lookAhead_0 := rfl
theorem yv_X5_lookAhead : YV yX5_lookAhead cX5_lookAhead 2 none 1 5 := ⟨⟨gT_of (List.mem_of_getElem? (i := 458) (by decide +kernel)) rfl, gT_of (List.mem_of_getElem? (i := 26) (by decide +kernel)) rfl, ⟨by decide, by decide⟩, by decide +kernel, by decide⟩, gT_of (List.mem_of_getElem? (i := 457) (by decide +kernel)) rfl, gT_of (List.mem_of_getElem? (i := 11) (by decide +kernel)) rfl, rfl⟩
theorem u_X5_lookAhead_0 : L_X5_lookAhead_0 = (0, .aload_n 0, [], nS) :: (1, .invokevirtual 209, [0, 5, 0, 0], S_X5_suppose) :: (4, .aload_n 0, [], nS) :: (5, .getfield 16, [5, 1, 1], nS) :: (8, .iload_n 1, [], nS) :: (9, .invokevirtual 228, [1, 0, 0, 0], S_X0_pass) :: (12, .return_, [], nS) :: [] := nr rfl
theorem z_X5_lookAhead_0 : atL L_X5_lookAhead 0 = L_X5_lookAhead_0 := nr rfl
theorem e_X5_lookAhead {x : Addr} {n : Int32} {h : AH} {K2 : Option Value → SpS → AH → Prop} : S_X5_lookAhead (SHn nn) [.ref x, .int n] h K2 = (fun (K : Option Value → AH → Prop) => x = 0 ∧ okE (est h 1) ∧ ∃ m : Nat, m < 2147483647 ∧ n = nI m ∧ ∀ h', est h' 14 = passN m (supE (est h 1)) → frE 14 h h' → K none h') (fun v h' => K2 v (SHn nn) h') := (lift_e P_X5_lookAhead [.ref x, .int n] h K2).trans (nr rfl)
set_option maxRecDepth 100000 in
set_option maxHeartbeats 4000000 in
theorem c_X5_lookAhead (l : Launch) : Ct l yX5_lookAhead cX5_lookAhead 2 none 7 0 0 S_X5_lookAhead := by
  refine Ct0_mk L_X5_lookAhead [] (by decide +kernel) (by decide) ok_X5_lookAhead (lk_X5_lookAhead l) ?_
  intro nn as h K hP
  match as, hP with
  | [.ref x, .int n], ⟨hx, ho, m, hm, hn, hK⟩ =>
  refine ⟨by simp [slotsN, Value.category], fun J hJ => ?_⟩
  subst hx
  refine hJ 0 _ _ _ _ ?_
  simp only [z_X5_lookAhead_0, u_X5_lookAhead_0, ev_aload_n0, ev_callV0, ev_getfR, ev_iload_n1, ev_callV1, ev_vret, ↓e_X0_pass, ↓e_X5_suppose, capO_z, kb_6, kb_11, kb_13, kb_15, kb_17, kb_18, kb_19, kb_23, kb_24, kb_25, kb_26, kb_29, kb_31, kb_35, kb_37, kb_41, kb_43, kb_44, kb_61, kb_75, kb_104, kb_7, kb_8, kb_9, kb_10, kb_12, kb_16, kb_20, kb_21, kb_30, kb_32, kb_40, kb_48, kb_50, kb_57, kb_59, kb_60, kb_63, kb_70, kb_78, kb_81, kb_82, kb_84, kb_97, kb_99, kb_100, kb_101, kb_119, kb_120, kb_122, ki_m1, ki_0, ki_1, ki_2, ki_3, ki_4, ki_5, ki_6, ki_7, ki_8, ki_9, ki_10, ki_11, ki_12, ki_13, ki_14, ki_15, ki_16, ki_17, ki_18, ki_19, ki_20, ki_21, ki_22, ki_23, ki_24, ki_25, ki_26, ki_27, ki_28, ki_29, ki_30, ki_31, ki_32, ki_33, ki_34, ki_35, ki_36, ki_37, ki_38, ki_39, ki_40, ki_41, ki_42, ki_43, ki_44, ki_45, ki_46, ki_47, ki_48, ki_49, ki_50, ki_51, ki_52, ki_53, ki_54, ki_55, ki_56, ki_57, ki_58, ki_59, ki_60, ki_61, ki_62, ki_63, ks_m2000, ks_m1006, ks_m1005, ks_m1004, ks_m1003, ks_m1002, ks_m1000, ks_200, ks_201, ks_300, ks_720, ks_9000, ks_10000, ks_250, ks_255, ks_256, ks_320, ks_660, ks_999, ks_1000, ks_9999, ks_12345, ne_2, ne_10, t_0, t_40, t_41, t_42, t_43, t_44, t_45, t_46, t_47, r_0_0, r_0_1, r_0_2, r_0_4, r_0_5, r_0_6, r_0_7, r_40_0, r_40_5, r_44_0, r_44_1, t_1, t_14, t_27, t_2, t_15, t_28, t_64, Nat.reduceEqDiff, ne_eq, not_false_eq_true, false_implies, true_implies, implies_true, Nat.reduceAdd, Nat.reduceLeDiff, Nat.reduceLT, Nat.reduceMul, or_true, true_or, if_true, if_false, not_true_eq_false, and_self, bF, Nat.reduceBEq, Bool.false_and, Bool.and_false, Bool.or_self, Bool.or_false, Bool.false_or, Bool.false_eq_true, Int.reduceAdd, Bool.and_self, Bool.true_and, Bool.and_true, beq_self_eq_true, not_not_, i10_, i01_, List.length_nil, List.length_cons, true_and, and_true, false_and, and_false, kl_i, kl_a, kl_n, kl_l, tl_s, tl_n, rv_S, pd_0, pd_e, pd_r, pd_i, pd_l, isE14t]
  refine ⟨ho, fun h1 p1 p2 => ⟨?_, m, hm, hn, fun h2 p3 p4 => hK h2 ?_ (frE_tr p2 p4)⟩⟩
  · rw [p1]; exact ok_sup ho
  · rw [p3, p1]
/-- whether one has, behind each of the next years, what is told from place i on -/
def toldE (V : Nat → Int64) (j r i : Nat) (E : ES) : Prop := match r with
  | 0 => True
  | r + 1 => V i = (eF (passE E).1 j 4).toInt64 ∧ toldE V j r (i + 1) (passE E).1
theorem toldE_s (V : Nat → Int64) (j r i : Nat) (E : ES) : toldE V j (r + 1) i E = (V i = (eF (passE E).1 j 4).toInt64 ∧ toldE V j r (i + 1) (passE E).1) := rfl
def P_X5_wouldHaveAsTold : Sp0T := fun as h K => match as with
  | [.ref x, .int i, .ref c, .int n] => x = 0 ∧ okE (est h 14) ∧ ∃ j s m : Nat, j < cnt (est h 14) ∧ i = nI j ∧ s < 8 ∧ c = 48 + 2 * s ∧ m ≤ 40 ∧ n = nI m ∧ ∀ h' v, (v = 0 ∨ v = 1) → (v = 1 ↔ toldE (gJ h (49 + 2 * s)) j m 0 (est h 14)) → frE 14 h h' → K (some (.int v)) h'
  | _ => False
def S_X5_wouldHaveAsTold : SpT := lift P_X5_wouldHaveAsTold
def L_X5_wouldHaveAsTold_49 : List Item := (49, .iconst 1, [], nS) :: (50, .ireturn, [], nS) :: []
def L_X5_wouldHaveAsTold_43 : List Item := (43, .iinc 4 1, [], nS) :: (46, .goto (-43), [3], nS) :: L_X5_wouldHaveAsTold_49
def L_X5_wouldHaveAsTold_3 : List Item := (3, .iload 4, [], nS) :: (5, .iload_n 3, [], nS) :: (6, .if_icmp .ge 43, [49], nS) :: (9, .aload_n 0, [], nS) :: (10, .getfield 16, [5, 1, 1], nS) :: (13, .invokevirtual 231, [0, 0, 0, 0], S_X0_passYear) :: (16, .pop, [], nS) :: (17, .aload_n 2, [], nS) :: (18, .getfield 88, [3, 2, 1], nS) :: (21, .iload 4, [], nS) :: (23, .laload, [], nS) :: (24, .aload_n 0, [], nS) :: (25, .getfield 16, [5, 1, 1], nS) :: (28, .getfield 117, [0, 6, 1], nS) :: (31, .iload_n 1, [], nS) :: (32, .aaload, [], nS) :: (33, .getfield 126, [1, 4, 0], nS) :: (36, .i2l, [], nS) :: (37, .lcmp, [], nS) :: (38, .ifCond .eq 5, [43], nS) :: (41, .iconst 0, [], nS) :: (42, .ireturn, [], nS) :: L_X5_wouldHaveAsTold_43
def L_X5_wouldHaveAsTold_0 : List Item := (0, .iconst 0, [], nS) :: (1, .istore 4, [], nS) :: (3, .nop, [], nS) :: L_X5_wouldHaveAsTold_3
def L_X5_wouldHaveAsTold : List Item := L_X5_wouldHaveAsTold_0
theorem ok_X5_wouldHaveAsTold : okB cX5_wouldHaveAsTold L_X5_wouldHaveAsTold = true := by decide +kernel
theorem lk_X5_wouldHaveAsTold (l : Launch) : LKs l RX5 6 false L_X5_wouldHaveAsTold := ⟨trivial, trivial, trivial, trivial, trivial, trivial, trivial, ⟨_, _, _, rfl, ⟨(RX5, TX5, 8), rfl, by decide, gT_of (List.mem_of_getElem? (i := 192) (by decide +kernel)) rfl⟩, rfl⟩, ⟨_, _, _, _, _, _, _, _, _, rfl, c_X0_passYear l, Or.inl ⟨by decide, yv_X0_passYear⟩, by decide, gT_of (List.mem_of_getElem? (i := 585) (by decide +kernel)) rfl⟩, trivial, trivial, ⟨_, _, _, rfl, ⟨(RX3, TX3, 3), rfl, by decide, gT_of (List.mem_of_getElem? (i := 182) (by decide +kernel)) rfl⟩, rfl⟩, trivial, trivial, trivial, ⟨_, _, _, rfl, ⟨(RX5, TX5, 8), rfl, by decide, gT_of (List.mem_of_getElem? (i := 192) (by decide +kernel)) rfl⟩, rfl⟩, ⟨_, _, _, rfl, ⟨(RX0, TX0, 7), rfl, by decide, gT_of (List.mem_of_getElem? (i := 114) (by decide +kernel)) rfl⟩, rfl⟩, trivial, trivial, ⟨_, _, _, rfl, ⟨(RX1, TX1, 7), rfl, by decide, gT_of (List.mem_of_getElem? (i := 72) (by decide +kernel)) rfl⟩, rfl⟩, trivial, trivial, trivial, trivial, trivial, trivial, trivial, trivial, trivial, trivial⟩
theorem b_X5_wouldHaveAsTold_0 : atL L_X5_wouldHaveAsTold 0 = L_X5_wouldHaveAsTold_0 := rfl
theorem b_X5_wouldHaveAsTold_3 : atL L_X5_wouldHaveAsTold 3 = L_X5_wouldHaveAsTold_3 := rfl
theorem b_X5_wouldHaveAsTold_43 : atL L_X5_wouldHaveAsTold 43 = L_X5_wouldHaveAsTold_43 := rfl
theorem b_X5_wouldHaveAsTold_49 : atL L_X5_wouldHaveAsTold 49 = L_X5_wouldHaveAsTold_49 := rfl
theorem a_X5_wouldHaveAsTold_43 : afw L_X5_wouldHaveAsTold [3] 43 = L_X5_wouldHaveAsTold_43 := rfl
theorem a_X5_wouldHaveAsTold_49 : afw L_X5_wouldHaveAsTold [3] 49 = L_X5_wouldHaveAsTold_49 := rfl
theorem a_X5_wouldHaveAsTold_3 : afw L_X5_wouldHaveAsTold [3] 3 = [] := rfl
theorem yv_X5_wouldHaveAsTold : YV yX5_wouldHaveAsTold cX5_wouldHaveAsTold 5 (some .boolean) 3 5 := ⟨⟨gT_of (List.mem_of_getElem? (i := 666) (by decide +kernel)) rfl, gT_of (List.mem_of_getElem? (i := 26) (by decide +kernel)) rfl, ⟨by decide, by decide⟩, by decide +kernel, by decide⟩, gT_of (List.mem_of_getElem? (i := 665) (by decide +kernel)) rfl, gT_of (List.mem_of_getElem? (i := 22) (by decide +kernel)) rfl, rfl⟩
theorem u_X5_wouldHaveAsTold_0 : L_X5_wouldHaveAsTold_0 = (0, .iconst 0, [], nS) :: (1, .istore 4, [], nS) :: (3, .nop, [], nS) :: L_X5_wouldHaveAsTold_3 := nr rfl
theorem u_X5_wouldHaveAsTold_3 : L_X5_wouldHaveAsTold_3 = (3, .iload 4, [], nS) :: (5, .iload_n 3, [], nS) :: (6, .if_icmp .ge 43, [49], nS) :: (9, .aload_n 0, [], nS) :: (10, .getfield 16, [5, 1, 1], nS) :: (13, .invokevirtual 231, [0, 0, 0, 0], S_X0_passYear) :: (16, .pop, [], nS) :: (17, .aload_n 2, [], nS) :: (18, .getfield 88, [3, 2, 1], nS) :: (21, .iload 4, [], nS) :: (23, .laload, [], nS) :: (24, .aload_n 0, [], nS) :: (25, .getfield 16, [5, 1, 1], nS) :: (28, .getfield 117, [0, 6, 1], nS) :: (31, .iload_n 1, [], nS) :: (32, .aaload, [], nS) :: (33, .getfield 126, [1, 4, 0], nS) :: (36, .i2l, [], nS) :: (37, .lcmp, [], nS) :: (38, .ifCond .eq 5, [43], nS) :: (41, .iconst 0, [], nS) :: (42, .ireturn, [], nS) :: L_X5_wouldHaveAsTold_43 := nr rfl
theorem u_X5_wouldHaveAsTold_43 : L_X5_wouldHaveAsTold_43 = (43, .iinc 4 1, [], nS) :: (46, .goto (-43), [3], nS) :: L_X5_wouldHaveAsTold_49 := nr rfl
theorem u_X5_wouldHaveAsTold_49 : L_X5_wouldHaveAsTold_49 = (49, .iconst 1, [], nS) :: (50, .ireturn, [], nS) :: [] := nr rfl
theorem z_X5_wouldHaveAsTold_0 : atL L_X5_wouldHaveAsTold 0 = L_X5_wouldHaveAsTold_0 := nr rfl
theorem z_X5_wouldHaveAsTold_3 : atL L_X5_wouldHaveAsTold 3 = L_X5_wouldHaveAsTold_3 := nr rfl
theorem z_X5_wouldHaveAsTold_43 : atL L_X5_wouldHaveAsTold 43 = L_X5_wouldHaveAsTold_43 := nr rfl
theorem z_X5_wouldHaveAsTold_49 : atL L_X5_wouldHaveAsTold 49 = L_X5_wouldHaveAsTold_49 := nr rfl
theorem j_X5_wouldHaveAsTold_43 {G : List Item → SpS → List Value → List Value → AH → Prop} {J : Nat → SpS → List Value → List Value → AH → Prop} {S : SpS} {lv st : List Value} {h : AH} : jmp G J (afw L_X5_wouldHaveAsTold [3] 43) 43 S lv st h = G L_X5_wouldHaveAsTold_43 S lv st h := nr rfl
theorem j_X5_wouldHaveAsTold_49 {G : List Item → SpS → List Value → List Value → AH → Prop} {J : Nat → SpS → List Value → List Value → AH → Prop} {S : SpS} {lv st : List Value} {h : AH} : jmp G J (afw L_X5_wouldHaveAsTold [3] 49) 49 S lv st h = G L_X5_wouldHaveAsTold_49 S lv st h := nr rfl
theorem j_X5_wouldHaveAsTold_3 {G : List Item → SpS → List Value → List Value → AH → Prop} {J : Nat → SpS → List Value → List Value → AH → Prop} {S : SpS} {lv st : List Value} {h : AH} : jmp G J (afw L_X5_wouldHaveAsTold [3] 3) 3 S lv st h = J 3 S lv st h := nr rfl
theorem e_X5_wouldHaveAsTold {x : Addr} {i : Int32} {c : Addr} {n : Int32} {h : AH} {K2 : Option Value → SpS → AH → Prop} : S_X5_wouldHaveAsTold (SHn nn) [.ref x, .int i, .ref c, .int n] h K2 = (fun (K : Option Value → AH → Prop) => x = 0 ∧ okE (est h 14) ∧ ∃ j s m : Nat, j < cnt (est h 14) ∧ i = nI j ∧ s < 8 ∧ c = 48 + 2 * s ∧ m ≤ 40 ∧ n = nI m ∧ ∀ h' v, (v = 0 ∨ v = 1) → (v = 1 ↔ toldE (gJ h (49 + 2 * s)) j m 0 (est h 14)) → frE 14 h h' → K (some (.int v)) h') (fun v h' => K2 v (SHn nn) h') := (lift_e P_X5_wouldHaveAsTold [.ref x, .int i, .ref c, .int n] h K2).trans (nr rfl)
set_option maxRecDepth 100000 in
set_option maxHeartbeats 4000000 in
theorem c_X5_wouldHaveAsTold (l : Launch) : Ct l yX5_wouldHaveAsTold cX5_wouldHaveAsTold 5 (some .boolean) 6 0 0 S_X5_wouldHaveAsTold := by
  refine Ct0_mk L_X5_wouldHaveAsTold [3] (by decide +kernel) (by decide) ok_X5_wouldHaveAsTold (lk_X5_wouldHaveAsTold l) ?_
  intro nn as h K hP
  match as, hP with
  | [.ref x, .int i, .ref c, .int n], ⟨hx, ho, j, s, m, hj, hi, hs, hc, hm, hn, hK⟩ =>
  refine ⟨by simp [slotsN, Value.category], fun J hJ => ?_⟩
  subst hx hi hc hn
  have hj10 : j < 10 := by have := ho.2.1; omega
  refine hJ 0 _ _ _ _ ?_
  simp only [z_X5_wouldHaveAsTold_0, u_X5_wouldHaveAsTold_0, u_X5_wouldHaveAsTold_3, u_X5_wouldHaveAsTold_43, u_X5_wouldHaveAsTold_49, j_X5_wouldHaveAsTold_3, j_X5_wouldHaveAsTold_43, j_X5_wouldHaveAsTold_49, ev_iconst, ev_istore4, ev_nop, ev_iload4, ev_iload_n3, ev_ic_ge, ev_aload_n0, ev_getfR, ev_callV0, ev_pop_int, ev_pop_ref, ev_aload_n2, ev_laload, ev_iload_n1, ev_aaload, ev_getfI, ev_i2l, ev_lcmp, ev_if_eq, ev_iret, ro_i, ro_z, ev_iinc4, ev_goto, ↓e_X0_passYear, capO_z, kb_6, kb_11, kb_13, kb_15, kb_17, kb_18, kb_19, kb_23, kb_24, kb_25, kb_26, kb_29, kb_31, kb_35, kb_37, kb_41, kb_43, kb_44, kb_61, kb_75, kb_104, kb_7, kb_8, kb_9, kb_10, kb_12, kb_16, kb_20, kb_21, kb_30, kb_32, kb_40, kb_48, kb_50, kb_57, kb_59, kb_60, kb_63, kb_70, kb_78, kb_81, kb_82, kb_84, kb_97, kb_99, kb_100, kb_101, kb_119, kb_120, kb_122, ki_m1, ki_0, ki_1, ki_2, ki_3, ki_4, ki_5, ki_6, ki_7, ki_8, ki_9, ki_10, ki_11, ki_12, ki_13, ki_14, ki_15, ki_16, ki_17, ki_18, ki_19, ki_20, ki_21, ki_22, ki_23, ki_24, ki_25, ki_26, ki_27, ki_28, ki_29, ki_30, ki_31, ki_32, ki_33, ki_34, ki_35, ki_36, ki_37, ki_38, ki_39, ki_40, ki_41, ki_42, ki_43, ki_44, ki_45, ki_46, ki_47, ki_48, ki_49, ki_50, ki_51, ki_52, ki_53, ki_54, ki_55, ki_56, ki_57, ki_58, ki_59, ki_60, ki_61, ki_62, ki_63, ks_m2000, ks_m1006, ks_m1005, ks_m1004, ks_m1003, ks_m1002, ks_m1000, ks_200, ks_201, ks_300, ks_720, ks_9000, ks_10000, ks_250, ks_255, ks_256, ks_320, ks_660, ks_999, ks_1000, ks_9999, ks_12345, ne_2, ne_10, t_0, t_40, t_41, t_42, t_43, t_44, t_45, t_46, t_47, r_0_0, r_0_1, r_0_2, r_0_4, r_0_5, r_0_6, r_0_7, r_40_0, r_40_5, r_44_0, r_44_1, t_1, t_14, t_27, t_2, t_15, t_28, t_64, Nat.reduceEqDiff, ne_eq, not_false_eq_true, false_implies, true_implies, implies_true, Nat.reduceAdd, Nat.reduceLeDiff, Nat.reduceLT, Nat.reduceMul, or_true, true_or, if_true, if_false, not_true_eq_false, and_self, bF, Nat.reduceBEq, Bool.false_and, Bool.and_false, Bool.or_self, Bool.or_false, Bool.false_or, Bool.false_eq_true, Int.reduceAdd, Bool.and_self, Bool.true_and, Bool.and_true, beq_self_eq_true, not_not_, i10_, i01_, List.length_nil, List.length_cons, true_and, and_true, false_and, and_false, kl_i, kl_a, kl_n, kl_l, tl_s, tl_n, rv_S, pd_0, pd_e, pd_r, pd_i, pd_l]
  refine dn (P := fun a => ∀ h', okE (est h' 14) → cnt (est h' 14) = cnt (est h 14) → (toldE (gJ h (49 + 2 * s)) j (m - a) a (est h' 14) ↔ toldE (gJ h (49 + 2 * s)) j m 0 (est h 14)) → frE 14 h h' → J 3 (SHn nn) [.ref 0, .int (nI j), .ref (48 + 2 * s), .int (nI m), .int (nI a)] [] h') m ?_ (fun a ha ih h' hE hn hu hf => ?_) h ho rfl Iff.rfl (frE_rf 14 h)
  · intro h' hE hn hu hf
    refine hJ 3 _ _ _ _ ?_
    simp only [z_X5_wouldHaveAsTold_3, u_X5_wouldHaveAsTold_0, u_X5_wouldHaveAsTold_3, u_X5_wouldHaveAsTold_43, u_X5_wouldHaveAsTold_49, j_X5_wouldHaveAsTold_3, j_X5_wouldHaveAsTold_43, j_X5_wouldHaveAsTold_49, ev_iconst, ev_istore4, ev_nop, ev_iload4, ev_iload_n3, ev_ic_ge, ev_aload_n0, ev_getfR, ev_callV0, ev_pop_int, ev_pop_ref, ev_aload_n2, ev_laload, ev_iload_n1, ev_aaload, ev_getfI, ev_i2l, ev_lcmp, ev_if_eq, ev_iret, ro_i, ro_z, ev_iinc4, ev_goto, ↓e_X0_passYear, capO_z, kb_6, kb_11, kb_13, kb_15, kb_17, kb_18, kb_19, kb_23, kb_24, kb_25, kb_26, kb_29, kb_31, kb_35, kb_37, kb_41, kb_43, kb_44, kb_61, kb_75, kb_104, kb_7, kb_8, kb_9, kb_10, kb_12, kb_16, kb_20, kb_21, kb_30, kb_32, kb_40, kb_48, kb_50, kb_57, kb_59, kb_60, kb_63, kb_70, kb_78, kb_81, kb_82, kb_84, kb_97, kb_99, kb_100, kb_101, kb_119, kb_120, kb_122, ki_m1, ki_0, ki_1, ki_2, ki_3, ki_4, ki_5, ki_6, ki_7, ki_8, ki_9, ki_10, ki_11, ki_12, ki_13, ki_14, ki_15, ki_16, ki_17, ki_18, ki_19, ki_20, ki_21, ki_22, ki_23, ki_24, ki_25, ki_26, ki_27, ki_28, ki_29, ki_30, ki_31, ki_32, ki_33, ki_34, ki_35, ki_36, ki_37, ki_38, ki_39, ki_40, ki_41, ki_42, ki_43, ki_44, ki_45, ki_46, ki_47, ki_48, ki_49, ki_50, ki_51, ki_52, ki_53, ki_54, ki_55, ki_56, ki_57, ki_58, ki_59, ki_60, ki_61, ki_62, ki_63, ks_m2000, ks_m1006, ks_m1005, ks_m1004, ks_m1003, ks_m1002, ks_m1000, ks_200, ks_201, ks_300, ks_720, ks_9000, ks_10000, ks_250, ks_255, ks_256, ks_320, ks_660, ks_999, ks_1000, ks_9999, ks_12345, ne_2, ne_10, t_0, t_40, t_41, t_42, t_43, t_44, t_45, t_46, t_47, r_0_0, r_0_1, r_0_2, r_0_4, r_0_5, r_0_6, r_0_7, r_40_0, r_40_5, r_44_0, r_44_1, t_1, t_14, t_27, t_2, t_15, t_28, t_64, Nat.reduceEqDiff, ne_eq, not_false_eq_true, false_implies, true_implies, implies_true, Nat.reduceAdd, Nat.reduceLeDiff, Nat.reduceLT, Nat.reduceMul, or_true, true_or, if_true, if_false, not_true_eq_false, and_self, bF, Nat.reduceBEq, Bool.false_and, Bool.and_false, Bool.or_self, Bool.or_false, Bool.false_or, Bool.false_eq_true, Int.reduceAdd, Bool.and_self, Bool.true_and, Bool.and_true, beq_self_eq_true, not_not_, i10_, i01_, List.length_nil, List.length_cons, true_and, and_true, false_and, and_false, kl_i, kl_a, kl_n, kl_l, tl_s, tl_n, rv_S, pd_0, pd_e, pd_r, pd_i, pd_l, lpT (show m < 2147483648 by omega), one_z]
    refine hK h' 1 (Or.inr rfl) ?_ hf
    rw [← hu, Nat.sub_self]
    exact ⟨fun _ => trivial, fun _ => rfl⟩
  · have ha40 : a < 40 := by omega
    refine hJ 3 _ _ _ _ ?_
    simp only [z_X5_wouldHaveAsTold_3, u_X5_wouldHaveAsTold_0, u_X5_wouldHaveAsTold_3, u_X5_wouldHaveAsTold_43, u_X5_wouldHaveAsTold_49, j_X5_wouldHaveAsTold_3, j_X5_wouldHaveAsTold_43, j_X5_wouldHaveAsTold_49, ev_iconst, ev_istore4, ev_nop, ev_iload4, ev_iload_n3, ev_ic_ge, ev_aload_n0, ev_getfR, ev_callV0, ev_pop_int, ev_pop_ref, ev_aload_n2, ev_laload, ev_iload_n1, ev_aaload, ev_getfI, ev_i2l, ev_lcmp, ev_if_eq, ev_iret, ro_i, ro_z, ev_iinc4, ev_goto, ↓e_X0_passYear, capO_z, kb_6, kb_11, kb_13, kb_15, kb_17, kb_18, kb_19, kb_23, kb_24, kb_25, kb_26, kb_29, kb_31, kb_35, kb_37, kb_41, kb_43, kb_44, kb_61, kb_75, kb_104, kb_7, kb_8, kb_9, kb_10, kb_12, kb_16, kb_20, kb_21, kb_30, kb_32, kb_40, kb_48, kb_50, kb_57, kb_59, kb_60, kb_63, kb_70, kb_78, kb_81, kb_82, kb_84, kb_97, kb_99, kb_100, kb_101, kb_119, kb_120, kb_122, ki_m1, ki_0, ki_1, ki_2, ki_3, ki_4, ki_5, ki_6, ki_7, ki_8, ki_9, ki_10, ki_11, ki_12, ki_13, ki_14, ki_15, ki_16, ki_17, ki_18, ki_19, ki_20, ki_21, ki_22, ki_23, ki_24, ki_25, ki_26, ki_27, ki_28, ki_29, ki_30, ki_31, ki_32, ki_33, ki_34, ki_35, ki_36, ki_37, ki_38, ki_39, ki_40, ki_41, ki_42, ki_43, ki_44, ki_45, ki_46, ki_47, ki_48, ki_49, ki_50, ki_51, ki_52, ki_53, ki_54, ki_55, ki_56, ki_57, ki_58, ki_59, ki_60, ki_61, ki_62, ki_63, ks_m2000, ks_m1006, ks_m1005, ks_m1004, ks_m1003, ks_m1002, ks_m1000, ks_200, ks_201, ks_300, ks_720, ks_9000, ks_10000, ks_250, ks_255, ks_256, ks_320, ks_660, ks_999, ks_1000, ks_9999, ks_12345, ne_2, ne_10, t_0, t_40, t_41, t_42, t_43, t_44, t_45, t_46, t_47, r_0_0, r_0_1, r_0_2, r_0_4, r_0_5, r_0_6, r_0_7, r_40_0, r_40_5, r_44_0, r_44_1, t_1, t_14, t_27, t_2, t_15, t_28, t_64, Nat.reduceEqDiff, ne_eq, not_false_eq_true, false_implies, true_implies, implies_true, Nat.reduceAdd, Nat.reduceLeDiff, Nat.reduceLT, Nat.reduceMul, or_true, true_or, if_true, if_false, not_true_eq_false, and_self, bF, Nat.reduceBEq, Bool.false_and, Bool.and_false, Bool.or_self, Bool.or_false, Bool.false_or, Bool.false_eq_true, Int.reduceAdd, Bool.and_self, Bool.true_and, Bool.and_true, beq_self_eq_true, not_not_, i10_, i01_, List.length_nil, List.length_cons, true_and, and_true, false_and, and_false, kl_i, kl_a, kl_n, kl_l, tl_s, tl_n, rv_S, pd_0, pd_e, pd_r, pd_i, pd_l, lpF ha (show m < 2147483648 by omega), isE14t, tSh hs, rSl hs, tSl hs, nI_clamp (show a < 2 ^ 31 by omega), vpN ha40 (show 40 < 2147483648 by omega), tE isE14, tE2 isE14, rE6 isE14, rEH isE14 hj10, tEH isE14 hj10, vp10 hj10, nI_10 hj10, lc_eq, nI_1]
    refine ⟨hE, fun h2 p1 p2 => ?_⟩
    have hc2 : cnt (est h2 14) = cnt (est h 14) := by rw [p1, sameE_cnt (same_passE _), hn]
    have g4 := est_f (h := h2) (b := 14) (i := j) (k := 4) (by rw [hc2]; exact hj) (by omega)
    have ej : gJ h2 (49 + 2 * s) a = gJ h (49 + 2 * s) a := (frE_tr hf p2).2 _ _
    rw [show m - a = (m - (a + 1)) + 1 by omega, toldE_s, ← p1, g4] at hu
    simp only [ej]
    refine ⟨fun q => ih h2 ?_ hc2 ?_ (frE_tr hf p2), fun q => ?_⟩
    · rw [p1]; exact sameE_ok (same_passE _) hE
    · rw [← hu]
      exact ⟨fun z => ⟨q, z⟩, fun z => z.2⟩
    · refine hK h2 0 (Or.inl rfl) ?_ (frE_tr hf p2)
      rw [← hu]
      exact ⟨fun z => absurd z (by decide), fun z => absurd z.1 q⟩
