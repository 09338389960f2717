variable {nn : Nat}
/-! ===== THE TAPE ===== -/
theorem e_J0_length_8abf5 {r : Addr} {h : AH} {K2 : Option Value → SpS → AH → Prop} : S_J0_length_8abf5 (SHn nn) [.ref r] h K2 = ∃ i : Nat, i < 7 ∧ r = 100000 + i ∧ K2 (some (.int (nI (lenJ.getD i 0)))) (SHn nn) h := (lift_e P_J0_length_8abf5 [.ref r] h K2).trans (nr rfl)
theorem e_J0_charAt_5068e {r : Addr} {x : Int32} {h : AH} {K2 : Option Value → SpS → AH → Prop} : S_J0_charAt_5068e (SHn nn) [.ref r, .int x] h K2 = ∃ i k : Nat, i < 7 ∧ r = 100000 + i ∧ k < lenJ.getD i 0 ∧ x = nI k ∧ K2 (some (.int (chJ i k))) (SHn nn) h := (lift_e P_J0_charAt_5068e [.ref r, .int x] h K2).trans (nr rfl)
def sortI (x : Int32) : Int32 := if ¬ x < 97 ∧ ¬ 122 < x then 0 else if ¬ x < 48 ∧ ¬ 57 < x then 1 else if x = 59 then 2 else 3
def P_X4_sortOf : Sp0T := fun as h K => match as with
  | [.int x] => K (some (.int (sortI x))) h
  | _ => False
def S_X4_sortOf : SpT := lift P_X4_sortOf
def L_X4_sortOf_39 : List Item := (39, .ireturn, [], nS) :: []
def L_X4_sortOf_38 : List Item := (38, .iconst 3, [], nS) :: L_X4_sortOf_39
def L_X4_sortOf_28 : List Item := (28, .iload_n 0, [], nS) :: (29, .bipush 59, [], nS) :: (31, .if_icmp .ne 7, [38], nS) :: (34, .iconst 2, [], nS) :: (35, .goto 4, [39], nS) :: L_X4_sortOf_38
def L_X4_sortOf_14 : List Item := (14, .iload_n 0, [], nS) :: (15, .bipush 48, [], nS) :: (17, .if_icmp .lt 11, [28], nS) :: (20, .iload_n 0, [], nS) :: (21, .bipush 57, [], nS) :: (23, .if_icmp .gt 5, [28], nS) :: (26, .iconst 1, [], nS) :: (27, .ireturn, [], nS) :: L_X4_sortOf_28
def L_X4_sortOf_0 : List Item := (0, .iload_n 0, [], nS) :: (1, .bipush 97, [], nS) :: (3, .if_icmp .lt 11, [14], nS) :: (6, .iload_n 0, [], nS) :: (7, .bipush 122, [], nS) :: (9, .if_icmp .gt 5, [14], nS) :: (12, .iconst 0, [], nS) :: (13, .ireturn, [], nS) :: L_X4_sortOf_14
def L_X4_sortOf : List Item := L_X4_sortOf_0
theorem ok_X4_sortOf : okB cX4_sortOf L_X4_sortOf = true := by decide +kernel
theorem lk_X4_sortOf (l : Launch) : LKs l RX4 1 false L_X4_sortOf := ⟨trivial, trivial, trivial, trivial, trivial, trivial, trivial, trivial, trivial, trivial, trivial, trivial, trivial, trivial, trivial, trivial, trivial, trivial, trivial, trivial, trivial, trivial, trivial, trivial⟩
theorem b_X4_sortOf_0 : atL L_X4_sortOf 0 = L_X4_sortOf_0 := rfl
theorem b_X4_sortOf_14 : atL L_X4_sortOf 14 = L_X4_sortOf_14 := rfl
theorem b_X4_sortOf_28 : atL L_X4_sortOf 28 = L_X4_sortOf_28 := rfl
theorem b_X4_sortOf_38 : atL L_X4_sortOf 38 = L_X4_sortOf_38 := rfl
theorem b_X4_sortOf_39 : atL L_X4_sortOf 39 = L_X4_sortOf_39 := rfl
theorem a_X4_sortOf_14 : afw L_X4_sortOf [] 14 = L_X4_sortOf_14 := rfl
theorem a_X4_sortOf_28 : afw L_X4_sortOf [] 28 = L_X4_sortOf_28 := rfl
theorem a_X4_sortOf_38 : afw L_X4_sortOf [] 38 = L_X4_sortOf_38 := rfl
theorem a_X4_sortOf_39 : afw L_X4_sortOf [] 39 = L_X4_sortOf_39 := rfl
theorem yv_X4_sortOf : YS yX4_sortOf cX4_sortOf 1 (some .int) 1 := ⟨⟨gT_of (List.mem_of_getElem? (i := 326) (by decide +kernel)) rfl, gT_of (List.mem_of_getElem? (i := 29) (by decide +kernel)) rfl, ⟨by decide, by decide⟩, by decide +kernel, by decide⟩, gT_of (List.mem_of_getElem? (i := 325) (by decide +kernel)) rfl⟩
theorem u_X4_sortOf_0 : L_X4_sortOf_0 = (0, .iload_n 0, [], nS) :: (1, .bipush 97, [], nS) :: (3, .if_icmp .lt 11, [14], nS) :: (6, .iload_n 0, [], nS) :: (7, .bipush 122, [], nS) :: (9, .if_icmp .gt 5, [14], nS) :: (12, .iconst 0, [], nS) :: (13, .ireturn, [], nS) :: L_X4_sortOf_14 := nr rfl
theorem u_X4_sortOf_14 : L_X4_sortOf_14 = (14, .iload_n 0, [], nS) :: (15, .bipush 48, [], nS) :: (17, .if_icmp .lt 11, [28], nS) :: (20, .iload_n 0, [], nS) :: (21, .bipush 57, [], nS) :: (23, .if_icmp .gt 5, [28], nS) :: (26, .iconst 1, [], nS) :: (27, .ireturn, [], nS) :: L_X4_sortOf_28 := nr rfl
theorem u_X4_sortOf_28 : L_X4_sortOf_28 = (28, .iload_n 0, [], nS) :: (29, .bipush 59, [], nS) :: (31, .if_icmp .ne 7, [38], nS) :: (34, .iconst 2, [], nS) :: (35, .goto 4, [39], nS) :: L_X4_sortOf_38 := nr rfl
theorem u_X4_sortOf_38 : L_X4_sortOf_38 = (38, .iconst 3, [], nS) :: L_X4_sortOf_39 := nr rfl
theorem u_X4_sortOf_39 : L_X4_sortOf_39 = (39, .ireturn, [], nS) :: [] := nr rfl
theorem z_X4_sortOf_0 : atL L_X4_sortOf 0 = L_X4_sortOf_0 := nr rfl
theorem z_X4_sortOf_14 : atL L_X4_sortOf 14 = L_X4_sortOf_14 := nr rfl
theorem z_X4_sortOf_28 : atL L_X4_sortOf 28 = L_X4_sortOf_28 := nr rfl
theorem z_X4_sortOf_38 : atL L_X4_sortOf 38 = L_X4_sortOf_38 := nr rfl
theorem z_X4_sortOf_39 : atL L_X4_sortOf 39 = L_X4_sortOf_39 := nr rfl
theorem j_X4_sortOf_14 {G : List Item → SpS → List Value → List Value → AH → Prop} {J : Nat → SpS → List Value → List Value → AH → Prop} {S : SpS} {lv st : List Value} {h : AH} : jmp G J (afw L_X4_sortOf [] 14) 14 S lv st h = G L_X4_sortOf_14 S lv st h := nr rfl
theorem j_X4_sortOf_28 {G : List Item → SpS → List Value → List Value → AH → Prop} {J : Nat → SpS → List Value → List Value → AH → Prop} {S : SpS} {lv st : List Value} {h : AH} : jmp G J (afw L_X4_sortOf [] 28) 28 S lv st h = G L_X4_sortOf_28 S lv st h := nr rfl
theorem j_X4_sortOf_38 {G : List Item → SpS → List Value → List Value → AH → Prop} {J : Nat → SpS → List Value → List Value → AH → Prop} {S : SpS} {lv st : List Value} {h : AH} : jmp G J (afw L_X4_sortOf [] 38) 38 S lv st h = G L_X4_sortOf_38 S lv st h := nr rfl
theorem j_X4_sortOf_39 {G : List Item → SpS → List Value → List Value → AH → Prop} {J : Nat → SpS → List Value → List Value → AH → Prop} {S : SpS} {lv st : List Value} {h : AH} : jmp G J (afw L_X4_sortOf [] 39) 39 S lv st h = G L_X4_sortOf_39 S lv st h := nr rfl
theorem e_X4_sortOf {x : Int32} {h : AH} {K2 : Option Value → SpS → AH → Prop} : S_X4_sortOf (SHn nn) [.int x] h K2 = (fun (K : Option Value → AH → Prop) => K (some (.int (sortI x))) h) (fun v h' => K2 v (SHn nn) h') := (lift_e P_X4_sortOf [.int x] h K2).trans (nr rfl)
set_option maxRecDepth 100000 in
set_option maxHeartbeats 4000000 in
theorem c_X4_sortOf (l : Launch) : Ct l yX4_sortOf cX4_sortOf 1 (some .int) 1 0 0 S_X4_sortOf := by
  refine Ct0_mk L_X4_sortOf [] (by decide +kernel) (by decide) ok_X4_sortOf (lk_X4_sortOf l) ?_
  intro nn as h K hP
  match as, hP with
  | [.int x], hK =>
  replace hK : (fun (K : Option Value → AH → Prop) => K (some (.int (sortI x))) h) (fun v h' => K v (SHn nn) h') := hK
  dsimp only at hK
  refine ⟨by simp [slotsN, Value.category], fun J hJ => ?_⟩
  refine hJ 0 _ _ _ _ ?_
  simp only [z_X4_sortOf_0, u_X4_sortOf_0, u_X4_sortOf_14, u_X4_sortOf_28, u_X4_sortOf_38, u_X4_sortOf_39, j_X4_sortOf_14, j_X4_sortOf_28, j_X4_sortOf_38, j_X4_sortOf_39, ev_iload_n0, ev_bipush, ev_ic_lt, ev_ic_gt, ev_iconst, ev_iret, ro_i, ro_z, ev_ic_ne, ev_goto, capO_z, kb_6, kb_11, kb_13, kb_15, kb_17, kb_18, kb_19, kb_23, kb_24, kb_25, kb_26, kb_29, kb_31, kb_35, kb_37, kb_41, kb_43, kb_44, kb_61, kb_75, kb_104, kb_7, kb_8, kb_9, kb_10, kb_12, kb_16, kb_20, kb_21, kb_30, kb_32, kb_40, kb_48, kb_50, kb_57, kb_59, kb_60, kb_63, kb_70, kb_78, kb_81, kb_82, kb_84, kb_97, kb_99, kb_100, kb_101, kb_119, kb_120, kb_122, ki_m1, ki_0, ki_1, ki_2, ki_3, ki_4, ki_5, ki_6, ki_7, ki_8, ki_9, ki_10, ki_11, ki_12, ki_13, ki_14, ki_15, ki_16, ki_17, ki_18, ki_19, ki_20, ki_21, ki_22, ki_23, ki_24, ki_25, ki_26, ki_27, ki_28, ki_29, ki_30, ki_31, ki_32, ki_33, ki_34, ki_35, ki_36, ki_37, ki_38, ki_39, ki_40, ki_41, ki_42, ki_43, ki_44, ki_45, ki_46, ki_47, ki_48, ki_49, ki_50, ki_51, ki_52, ki_53, ki_54, ki_55, ki_56, ki_57, ki_58, ki_59, ki_60, ki_61, ki_62, ki_63, ks_m2000, ks_m1006, ks_m1005, ks_m1004, ks_m1003, ks_m1002, ks_m1000, ks_200, ks_201, ks_300, ks_720, ks_9000, ks_10000, ks_250, ks_255, ks_256, ks_320, ks_660, ks_999, ks_1000, ks_9999, ks_12345, ne_2, ne_10, t_0, t_40, t_41, t_42, t_43, t_44, t_45, t_46, t_47, r_0_0, r_0_1, r_0_2, r_0_4, r_0_5, r_0_6, r_0_7, r_40_0, r_40_5, r_44_0, r_44_1, t_1, t_14, t_27, t_2, t_15, t_28, t_64, Nat.reduceEqDiff, ne_eq, not_false_eq_true, false_implies, true_implies, implies_true, Nat.reduceAdd, Nat.reduceLeDiff, Nat.reduceLT, Nat.reduceMul, or_true, true_or, if_true, if_false, not_true_eq_false, and_self, bF, Nat.reduceBEq, Bool.false_and, Bool.and_false, Bool.or_self, Bool.or_false, Bool.false_or, Bool.false_eq_true, Int.reduceAdd, Bool.and_self, Bool.true_and, Bool.and_true, beq_self_eq_true, not_not_, i10_, i01_, List.length_nil, List.length_cons, true_and, and_true, false_and, and_false, kl_i, kl_a, kl_n, kl_l, tl_s, tl_n, rv_S, pd_0, pd_e, pd_r, pd_i, pd_l]
  unfold sortI at hK
  by_cases a1 : x < 97
  · rw [if_neg (fun z => z.1 a1)] at hK
    simp only [a1, not_true, false_implies, and_true, true_implies, true_and]
    by_cases a3 : x < 48
    · rw [if_neg (fun z => z.1 a3)] at hK
      simp only [a3, not_true, false_implies, and_true, true_implies, true_and]
      refine ⟨fun q => ?_, fun q => ?_⟩
      · rw [if_neg q] at hK; exact hK
      · rw [if_pos q] at hK; exact hK
    · by_cases a4 : 57 < x
      · rw [if_neg (fun z => z.2 a4)] at hK
        simp only [a3, a4, not_true, not_false_eq_true, false_implies, and_true, true_implies, true_and]
        refine ⟨fun q => ?_, fun q => ?_⟩
        · rw [if_neg q] at hK; exact hK
        · rw [if_pos q] at hK; exact hK
      · rw [if_pos ⟨a3, a4⟩] at hK
        simp only [a3, a4, not_true, not_false_eq_true, false_implies, and_true, true_implies, true_and]
        exact hK
  · by_cases a2 : 122 < x
    · have a5 : ¬ x < 48 := fun z => absurd (Int32.lt_trans z (show (48 : Int32) < 97 by decide)) a1
      have a6 : 57 < x := Int32.lt_trans (show (57 : Int32) < 122 by decide) a2
      have a7 : ¬ x = 59 := fun z => by rw [z] at a2; exact absurd a2 (by decide)
      rw [if_neg (fun z => z.2 a2), if_neg (fun z => z.2 a6), if_neg a7] at hK
      simp only [a1, a2, a5, a6, a7, not_true, not_false_eq_true, false_implies, and_true, true_implies, true_and]
      exact hK
    · rw [if_pos ⟨a1, a2⟩] at hK
      simp only [a1, a2, not_true, not_false_eq_true, false_implies, and_true, true_implies, true_and]
      exact hK
def P_X4_isBirth : Sp0T := fun as h K => match as with
  | [.int w] => K (some (.int (b2i (w = 0 ∨ w = 1)))) h
  | _ => False
def S_X4_isBirth : SpT := lift P_X4_isBirth
def L_X4_isBirth_14 : List Item := (14, .ireturn, [], nS) :: []
def L_X4_isBirth_13 : List Item := (13, .iconst 0, [], nS) :: L_X4_isBirth_14
def L_X4_isBirth_9 : List Item := (9, .iconst 1, [], nS) :: (10, .goto 4, [14], nS) :: L_X4_isBirth_13
def L_X4_isBirth_0 : List Item := (0, .iload_n 0, [], nS) :: (1, .ifCond .eq 8, [9], nS) :: (4, .iload_n 0, [], nS) :: (5, .iconst 1, [], nS) :: (6, .if_icmp .ne 7, [13], nS) :: L_X4_isBirth_9
def L_X4_isBirth : List Item := L_X4_isBirth_0
theorem ok_X4_isBirth : okB cX4_isBirth L_X4_isBirth = true := by decide +kernel
theorem lk_X4_isBirth (l : Launch) : LKs l RX4 1 false L_X4_isBirth := ⟨trivial, trivial, trivial, trivial, trivial, trivial, trivial, trivial, trivial, trivial⟩
theorem b_X4_isBirth_0 : atL L_X4_isBirth 0 = L_X4_isBirth_0 := rfl
theorem b_X4_isBirth_9 : atL L_X4_isBirth 9 = L_X4_isBirth_9 := rfl
theorem b_X4_isBirth_13 : atL L_X4_isBirth 13 = L_X4_isBirth_13 := rfl
theorem b_X4_isBirth_14 : atL L_X4_isBirth 14 = L_X4_isBirth_14 := rfl
theorem a_X4_isBirth_9 : afw L_X4_isBirth [] 9 = L_X4_isBirth_9 := rfl
theorem a_X4_isBirth_13 : afw L_X4_isBirth [] 13 = L_X4_isBirth_13 := rfl
theorem a_X4_isBirth_14 : afw L_X4_isBirth [] 14 = L_X4_isBirth_14 := rfl
theorem yv_X4_isBirth : YS yX4_isBirth cX4_isBirth 1 (some .boolean) 1 := ⟨⟨gT_of (List.mem_of_getElem? (i := 399) (by decide +kernel)) rfl, gT_of (List.mem_of_getElem? (i := 29) (by decide +kernel)) rfl, ⟨by decide, by decide⟩, by decide +kernel, by decide⟩, gT_of (List.mem_of_getElem? (i := 398) (by decide +kernel)) rfl⟩
theorem u_X4_isBirth_0 : L_X4_isBirth_0 = (0, .iload_n 0, [], nS) :: (1, .ifCond .eq 8, [9], nS) :: (4, .iload_n 0, [], nS) :: (5, .iconst 1, [], nS) :: (6, .if_icmp .ne 7, [13], nS) :: L_X4_isBirth_9 := nr rfl
theorem u_X4_isBirth_9 : L_X4_isBirth_9 = (9, .iconst 1, [], nS) :: (10, .goto 4, [14], nS) :: L_X4_isBirth_13 := nr rfl
theorem u_X4_isBirth_13 : L_X4_isBirth_13 = (13, .iconst 0, [], nS) :: L_X4_isBirth_14 := nr rfl
theorem u_X4_isBirth_14 : L_X4_isBirth_14 = (14, .ireturn, [], nS) :: [] := nr rfl
theorem z_X4_isBirth_0 : atL L_X4_isBirth 0 = L_X4_isBirth_0 := nr rfl
theorem z_X4_isBirth_9 : atL L_X4_isBirth 9 = L_X4_isBirth_9 := nr rfl
theorem z_X4_isBirth_13 : atL L_X4_isBirth 13 = L_X4_isBirth_13 := nr rfl
theorem z_X4_isBirth_14 : atL L_X4_isBirth 14 = L_X4_isBirth_14 := nr rfl
theorem j_X4_isBirth_9 {G : List Item → SpS → List Value → List Value → AH → Prop} {J : Nat → SpS → List Value → List Value → AH → Prop} {S : SpS} {lv st : List Value} {h : AH} : jmp G J (afw L_X4_isBirth [] 9) 9 S lv st h = G L_X4_isBirth_9 S lv st h := nr rfl
theorem j_X4_isBirth_13 {G : List Item → SpS → List Value → List Value → AH → Prop} {J : Nat → SpS → List Value → List Value → AH → Prop} {S : SpS} {lv st : List Value} {h : AH} : jmp G J (afw L_X4_isBirth [] 13) 13 S lv st h = G L_X4_isBirth_13 S lv st h := nr rfl
theorem j_X4_isBirth_14 {G : List Item → SpS → List Value → List Value → AH → Prop} {J : Nat → SpS → List Value → List Value → AH → Prop} {S : SpS} {lv st : List Value} {h : AH} : jmp G J (afw L_X4_isBirth [] 14) 14 S lv st h = G L_X4_isBirth_14 S lv st h := nr rfl
theorem e_X4_isBirth {w : Int32} {h : AH} {K2 : Option Value → SpS → AH → Prop} : S_X4_isBirth (SHn nn) [.int w] h K2 = (fun (K : Option Value → AH → Prop) => K (some (.int (b2i (w = 0 ∨ w = 1)))) h) (fun v h' => K2 v (SHn nn) h') := (lift_e P_X4_isBirth [.int w] h K2).trans (nr rfl)
set_option maxRecDepth 100000 in
set_option maxHeartbeats 4000000 in
theorem c_X4_isBirth (l : Launch) : Ct l yX4_isBirth cX4_isBirth 1 (some .boolean) 1 0 0 S_X4_isBirth := by
  refine Ct0_mk L_X4_isBirth [] (by decide +kernel) (by decide) ok_X4_isBirth (lk_X4_isBirth l) ?_
  intro nn as h K hP
  match as, hP with
  | [.int w], hK =>
  replace hK : (fun (K : Option Value → AH → Prop) => K (some (.int (b2i (w = 0 ∨ w = 1)))) h) (fun v h' => K v (SHn nn) h') := hK
  dsimp only at hK
  refine ⟨by simp [slotsN, Value.category], fun J hJ => ?_⟩
  refine hJ 0 _ _ _ _ ?_
  simp only [z_X4_isBirth_0, u_X4_isBirth_0, u_X4_isBirth_9, u_X4_isBirth_13, u_X4_isBirth_14, j_X4_isBirth_9, j_X4_isBirth_13, j_X4_isBirth_14, ev_iload_n0, ev_if_eq, ev_iconst, ev_ic_ne, ev_goto, ev_iret, ro_i, ro_z, capO_z, kb_6, kb_11, kb_13, kb_15, kb_17, kb_18, kb_19, kb_23, kb_24, kb_25, kb_26, kb_29, kb_31, kb_35, kb_37, kb_41, kb_43, kb_44, kb_61, kb_75, kb_104, kb_7, kb_8, kb_9, kb_10, kb_12, kb_16, kb_20, kb_21, kb_30, kb_32, kb_40, kb_48, kb_50, kb_57, kb_59, kb_60, kb_63, kb_70, kb_78, kb_81, kb_82, kb_84, kb_97, kb_99, kb_100, kb_101, kb_119, kb_120, kb_122, ki_m1, ki_0, ki_1, ki_2, ki_3, ki_4, ki_5, ki_6, ki_7, ki_8, ki_9, ki_10, ki_11, ki_12, ki_13, ki_14, ki_15, ki_16, ki_17, ki_18, ki_19, ki_20, ki_21, ki_22, ki_23, ki_24, ki_25, ki_26, ki_27, ki_28, ki_29, ki_30, ki_31, ki_32, ki_33, ki_34, ki_35, ki_36, ki_37, ki_38, ki_39, ki_40, ki_41, ki_42, ki_43, ki_44, ki_45, ki_46, ki_47, ki_48, ki_49, ki_50, ki_51, ki_52, ki_53, ki_54, ki_55, ki_56, ki_57, ki_58, ki_59, ki_60, ki_61, ki_62, ki_63, ks_m2000, ks_m1006, ks_m1005, ks_m1004, ks_m1003, ks_m1002, ks_m1000, ks_200, ks_201, ks_300, ks_720, ks_9000, ks_10000, ks_250, ks_255, ks_256, ks_320, ks_660, ks_999, ks_1000, ks_9999, ks_12345, ne_2, ne_10, t_0, t_40, t_41, t_42, t_43, t_44, t_45, t_46, t_47, r_0_0, r_0_1, r_0_2, r_0_4, r_0_5, r_0_6, r_0_7, r_40_0, r_40_5, r_44_0, r_44_1, t_1, t_14, t_27, t_2, t_15, t_28, t_64, Nat.reduceEqDiff, ne_eq, not_false_eq_true, false_implies, true_implies, implies_true, Nat.reduceAdd, Nat.reduceLeDiff, Nat.reduceLT, Nat.reduceMul, or_true, true_or, if_true, if_false, not_true_eq_false, and_self, bF, Nat.reduceBEq, Bool.false_and, Bool.and_false, Bool.or_self, Bool.or_false, Bool.false_or, Bool.false_eq_true, Int.reduceAdd, Bool.and_self, Bool.true_and, Bool.and_true, beq_self_eq_true, not_not_, i10_, i01_, List.length_nil, List.length_cons, true_and, and_true, false_and, and_false, kl_i, kl_a, kl_n, kl_l, tl_s, tl_n, rv_S, pd_0, pd_e, pd_r, pd_i, pd_l]
  unfold b2i at hK
  refine ⟨fun q => ?_, fun q => ⟨fun q2 => ?_, fun q2 => ?_⟩⟩
  · rw [if_pos (Or.inl q)] at hK; exact hK
  · rw [if_neg (fun z => z.elim q q2)] at hK; exact hK
  · rw [if_pos (Or.inr q2)] at hK; exact hK
def P_X4_spelling : Sp0T := fun as h K => match as with
  | [.int w] => ∃ i : Nat, i < 7 ∧ w = nI i ∧ K (some (.ref (100000 + i))) h
  | _ => False
def S_X4_spelling : SpT := lift P_X4_spelling
def L_X4_spelling_58 : List Item := (58, .ldc 100, [1, 6], nS) :: (60, .areturn, [], nS) :: []
def L_X4_spelling_55 : List Item := (55, .ldc 99, [1, 5], nS) :: (57, .areturn, [], nS) :: L_X4_spelling_58
def L_X4_spelling_52 : List Item := (52, .ldc 98, [1, 4], nS) :: (54, .areturn, [], nS) :: L_X4_spelling_55
def L_X4_spelling_49 : List Item := (49, .ldc 97, [1, 3], nS) :: (51, .areturn, [], nS) :: L_X4_spelling_52
def L_X4_spelling_46 : List Item := (46, .ldc 96, [1, 2], nS) :: (48, .areturn, [], nS) :: L_X4_spelling_49
def L_X4_spelling_43 : List Item := (43, .ldc 94, [1, 1], nS) :: (45, .areturn, [], nS) :: L_X4_spelling_46
def L_X4_spelling_40 : List Item := (40, .ldc 92, [1, 0], nS) :: (42, .areturn, [], nS) :: L_X4_spelling_43
def L_X4_spelling_0 : List Item := (0, .iload_n 0, [], nS) :: (1, .tableswitch 57 0 5 #[39, 42, 45, 48, 51, 54], [40, 43, 46, 49, 52, 55, 58], nS) :: L_X4_spelling_40
def L_X4_spelling : List Item := L_X4_spelling_0
theorem ok_X4_spelling : okB cX4_spelling L_X4_spelling = true := by decide +kernel
theorem lk_X4_spelling (l : Launch) : LKs l RX4 1 false L_X4_spelling := ⟨trivial, trivial, Or.inr ⟨_, "heir", rfl, by decide +kernel⟩, trivial, Or.inr ⟨_, "child", rfl, by decide +kernel⟩, trivial, Or.inr ⟨_, "has", rfl, by decide +kernel⟩, trivial, Or.inr ⟨_, "store", rfl, by decide +kernel⟩, trivial, Or.inr ⟨_, "year", rfl, by decide +kernel⟩, trivial, Or.inr ⟨_, "rule", rfl, by decide +kernel⟩, trivial, Or.inr ⟨_, "joy", rfl, by decide +kernel⟩, trivial, trivial⟩
theorem b_X4_spelling_0 : atL L_X4_spelling 0 = L_X4_spelling_0 := rfl
theorem b_X4_spelling_40 : atL L_X4_spelling 40 = L_X4_spelling_40 := rfl
theorem b_X4_spelling_43 : atL L_X4_spelling 43 = L_X4_spelling_43 := rfl
theorem b_X4_spelling_46 : atL L_X4_spelling 46 = L_X4_spelling_46 := rfl
theorem b_X4_spelling_49 : atL L_X4_spelling 49 = L_X4_spelling_49 := rfl
theorem b_X4_spelling_52 : atL L_X4_spelling 52 = L_X4_spelling_52 := rfl
theorem b_X4_spelling_55 : atL L_X4_spelling 55 = L_X4_spelling_55 := rfl
theorem b_X4_spelling_58 : atL L_X4_spelling 58 = L_X4_spelling_58 := rfl
theorem a_X4_spelling_40 : afw L_X4_spelling [] 40 = L_X4_spelling_40 := rfl
theorem a_X4_spelling_43 : afw L_X4_spelling [] 43 = L_X4_spelling_43 := rfl
theorem a_X4_spelling_46 : afw L_X4_spelling [] 46 = L_X4_spelling_46 := rfl
theorem a_X4_spelling_49 : afw L_X4_spelling [] 49 = L_X4_spelling_49 := rfl
theorem a_X4_spelling_52 : afw L_X4_spelling [] 52 = L_X4_spelling_52 := rfl
theorem a_X4_spelling_55 : afw L_X4_spelling [] 55 = L_X4_spelling_55 := rfl
theorem a_X4_spelling_58 : afw L_X4_spelling [] 58 = L_X4_spelling_58 := rfl
theorem yv_X4_spelling : YS yX4_spelling cX4_spelling 1 (some (.object "java/lang/String")) 1 := ⟨⟨gT_of (List.mem_of_getElem? (i := 337) (by decide +kernel)) rfl, gT_of (List.mem_of_getElem? (i := 29) (by decide +kernel)) rfl, ⟨by decide, by decide⟩, by decide +kernel, by decide⟩, gT_of (List.mem_of_getElem? (i := 336) (by decide +kernel)) rfl⟩
theorem u_X4_spelling_0 : L_X4_spelling_0 = (0, .iload_n 0, [], nS) :: (1, .tableswitch 57 0 5 #[39, 42, 45, 48, 51, 54], [40, 43, 46, 49, 52, 55, 58], nS) :: L_X4_spelling_40 := nr rfl
theorem u_X4_spelling_40 : L_X4_spelling_40 = (40, .ldc 92, [1, 0], nS) :: (42, .areturn, [], nS) :: L_X4_spelling_43 := nr rfl
theorem u_X4_spelling_43 : L_X4_spelling_43 = (43, .ldc 94, [1, 1], nS) :: (45, .areturn, [], nS) :: L_X4_spelling_46 := nr rfl
theorem u_X4_spelling_46 : L_X4_spelling_46 = (46, .ldc 96, [1, 2], nS) :: (48, .areturn, [], nS) :: L_X4_spelling_49 := nr rfl
theorem u_X4_spelling_49 : L_X4_spelling_49 = (49, .ldc 97, [1, 3], nS) :: (51, .areturn, [], nS) :: L_X4_spelling_52 := nr rfl
theorem u_X4_spelling_52 : L_X4_spelling_52 = (52, .ldc 98, [1, 4], nS) :: (54, .areturn, [], nS) :: L_X4_spelling_55 := nr rfl
theorem u_X4_spelling_55 : L_X4_spelling_55 = (55, .ldc 99, [1, 5], nS) :: (57, .areturn, [], nS) :: L_X4_spelling_58 := nr rfl
theorem u_X4_spelling_58 : L_X4_spelling_58 = (58, .ldc 100, [1, 6], nS) :: (60, .areturn, [], nS) :: [] := nr rfl
theorem z_X4_spelling_0 : atL L_X4_spelling 0 = L_X4_spelling_0 := nr rfl
theorem z_X4_spelling_40 : atL L_X4_spelling 40 = L_X4_spelling_40 := nr rfl
theorem z_X4_spelling_43 : atL L_X4_spelling 43 = L_X4_spelling_43 := nr rfl
theorem z_X4_spelling_46 : atL L_X4_spelling 46 = L_X4_spelling_46 := nr rfl
theorem z_X4_spelling_49 : atL L_X4_spelling 49 = L_X4_spelling_49 := nr rfl
theorem z_X4_spelling_52 : atL L_X4_spelling 52 = L_X4_spelling_52 := nr rfl
theorem z_X4_spelling_55 : atL L_X4_spelling 55 = L_X4_spelling_55 := nr rfl
theorem z_X4_spelling_58 : atL L_X4_spelling 58 = L_X4_spelling_58 := nr rfl
theorem j_X4_spelling_40 {G : List Item → SpS → List Value → List Value → AH → Prop} {J : Nat → SpS → List Value → List Value → AH → Prop} {S : SpS} {lv st : List Value} {h : AH} : jmp G J (afw L_X4_spelling [] 40) 40 S lv st h = G L_X4_spelling_40 S lv st h := nr rfl
theorem j_X4_spelling_43 {G : List Item → SpS → List Value → List Value → AH → Prop} {J : Nat → SpS → List Value → List Value → AH → Prop} {S : SpS} {lv st : List Value} {h : AH} : jmp G J (afw L_X4_spelling [] 43) 43 S lv st h = G L_X4_spelling_43 S lv st h := nr rfl
theorem j_X4_spelling_46 {G : List Item → SpS → List Value → List Value → AH → Prop} {J : Nat → SpS → List Value → List Value → AH → Prop} {S : SpS} {lv st : List Value} {h : AH} : jmp G J (afw L_X4_spelling [] 46) 46 S lv st h = G L_X4_spelling_46 S lv st h := nr rfl
theorem j_X4_spelling_49 {G : List Item → SpS → List Value → List Value → AH → Prop} {J : Nat → SpS → List Value → List Value → AH → Prop} {S : SpS} {lv st : List Value} {h : AH} : jmp G J (afw L_X4_spelling [] 49) 49 S lv st h = G L_X4_spelling_49 S lv st h := nr rfl
theorem j_X4_spelling_52 {G : List Item → SpS → List Value → List Value → AH → Prop} {J : Nat → SpS → List Value → List Value → AH → Prop} {S : SpS} {lv st : List Value} {h : AH} : jmp G J (afw L_X4_spelling [] 52) 52 S lv st h = G L_X4_spelling_52 S lv st h := nr rfl
theorem j_X4_spelling_55 {G : List Item → SpS → List Value → List Value → AH → Prop} {J : Nat → SpS → List Value → List Value → AH → Prop} {S : SpS} {lv st : List Value} {h : AH} : jmp G J (afw L_X4_spelling [] 55) 55 S lv st h = G L_X4_spelling_55 S lv st h := nr rfl
theorem j_X4_spelling_58 {G : List Item → SpS → List Value → List Value → AH → Prop} {J : Nat → SpS → List Value → List Value → AH → Prop} {S : SpS} {lv st : List Value} {h : AH} : jmp G J (afw L_X4_spelling [] 58) 58 S lv st h = G L_X4_spelling_58 S lv st h := nr rfl
theorem e_X4_spelling {w : Int32} {h : AH} {K2 : Option Value → SpS → AH → Prop} : S_X4_spelling (SHn nn) [.int w] h K2 = (fun (K : Option Value → AH → Prop) => ∃ i : Nat, i < 7 ∧ w = nI i ∧ K (some (.ref (100000 + i))) h) (fun v h' => K2 v (SHn nn) h') := (lift_e P_X4_spelling [.int w] h K2).trans (nr rfl)
set_option maxRecDepth 100000 in
set_option maxHeartbeats 4000000 in
theorem c_X4_spelling (l : Launch) : Ct l yX4_spelling cX4_spelling 1 (some (.object "java/lang/String")) 1 0 0 S_X4_spelling := by
  refine Ct0_mk L_X4_spelling [] (by decide +kernel) (by decide) ok_X4_spelling (lk_X4_spelling l) ?_
  intro nn as h K hP
  match as, hP with
  | [.int w], ⟨i, hi, hw, hK⟩ =>
  refine ⟨by simp [slotsN, Value.category], fun J hJ => ?_⟩
  subst hw
  rcases (show i = 0 ∨ i = 1 ∨ i = 2 ∨ i = 3 ∨ i = 4 ∨ i = 5 ∨ i = 6 by omega) with rfl | rfl | rfl | rfl | rfl | rfl | rfl
  iterate 7
    refine hJ 0 _ _ _ _ ?_
    simp only [z_X4_spelling_0, u_X4_spelling_0, u_X4_spelling_40, u_X4_spelling_43, u_X4_spelling_46, u_X4_spelling_49, u_X4_spelling_52, u_X4_spelling_55, u_X4_spelling_58, j_X4_spelling_40, j_X4_spelling_43, j_X4_spelling_46, j_X4_spelling_49, j_X4_spelling_52, j_X4_spelling_55, j_X4_spelling_58, ev_iload_n0, ev_tableswitch, ev_sw1, ev_swc, ev_ldcR, ev_aret, ro_a, capO_z, kb_6, kb_11, kb_13, kb_15, kb_17, kb_18, kb_19, kb_23, kb_24, kb_25, kb_26, kb_29, kb_31, kb_35, kb_37, kb_41, kb_43, kb_44, kb_61, kb_75, kb_104, kb_7, kb_8, kb_9, kb_10, kb_12, kb_16, kb_20, kb_21, kb_30, kb_32, kb_40, kb_48, kb_50, kb_57, kb_59, kb_60, kb_63, kb_70, kb_78, kb_81, kb_82, kb_84, kb_97, kb_99, kb_100, kb_101, kb_119, kb_120, kb_122, ki_m1, ki_0, ki_1, ki_2, ki_3, ki_4, ki_5, ki_6, ki_7, ki_8, ki_9, ki_10, ki_11, ki_12, ki_13, ki_14, ki_15, ki_16, ki_17, ki_18, ki_19, ki_20, ki_21, ki_22, ki_23, ki_24, ki_25, ki_26, ki_27, ki_28, ki_29, ki_30, ki_31, ki_32, ki_33, ki_34, ki_35, ki_36, ki_37, ki_38, ki_39, ki_40, ki_41, ki_42, ki_43, ki_44, ki_45, ki_46, ki_47, ki_48, ki_49, ki_50, ki_51, ki_52, ki_53, ki_54, ki_55, ki_56, ki_57, ki_58, ki_59, ki_60, ki_61, ki_62, ki_63, ks_m2000, ks_m1006, ks_m1005, ks_m1004, ks_m1003, ks_m1002, ks_m1000, ks_200, ks_201, ks_300, ks_720, ks_9000, ks_10000, ks_250, ks_255, ks_256, ks_320, ks_660, ks_999, ks_1000, ks_9999, ks_12345, ne_2, ne_10, t_0, t_40, t_41, t_42, t_43, t_44, t_45, t_46, t_47, r_0_0, r_0_1, r_0_2, r_0_4, r_0_5, r_0_6, r_0_7, r_40_0, r_40_5, r_44_0, r_44_1, t_1, t_14, t_27, t_2, t_15, t_28, t_64, Nat.reduceEqDiff, ne_eq, not_false_eq_true, false_implies, true_implies, implies_true, Nat.reduceAdd, Nat.reduceLeDiff, Nat.reduceLT, Nat.reduceMul, or_true, true_or, if_true, if_false, not_true_eq_false, and_self, bF, Nat.reduceBEq, Bool.false_and, Bool.and_false, Bool.or_self, Bool.or_false, Bool.false_or, Bool.false_eq_true, Int.reduceAdd, Bool.and_self, Bool.true_and, Bool.and_true, beq_self_eq_true, not_not_, i10_, i01_, List.length_nil, List.length_cons, true_and, and_true, false_and, and_false, kl_i, kl_a, kl_n, kl_l, tl_s, tl_n, rv_S, pd_0, pd_e, pd_r, pd_i, pd_l]
    simp +decide only [false_implies, true_implies, and_true, true_and]
    exact hK
def wantN (w : Int32) : Nat := if w = 0 then 3 else if w = 1 then 4 else if w = 2 then 2 else if w = 6 then 2 else 1
def P_X4_howManyNumbers : Sp0T := fun as h K => match as with
  | [.int w] => ∃ i : Nat, i < 7 ∧ w = nI i ∧ K (some (.int (nI (wantN (nI i))))) h
  | _ => False
def S_X4_howManyNumbers : SpT := lift P_X4_howManyNumbers
def L_X4_howManyNumbers_52 : List Item := (52, .iconst 1, [], nS) :: (53, .ireturn, [], nS) :: []
def L_X4_howManyNumbers_50 : List Item := (50, .iconst 2, [], nS) :: (51, .ireturn, [], nS) :: L_X4_howManyNumbers_52
def L_X4_howManyNumbers_48 : List Item := (48, .iconst 2, [], nS) :: (49, .ireturn, [], nS) :: L_X4_howManyNumbers_50
def L_X4_howManyNumbers_46 : List Item := (46, .iconst 4, [], nS) :: (47, .ireturn, [], nS) :: L_X4_howManyNumbers_48
def L_X4_howManyNumbers_44 : List Item := (44, .iconst 3, [], nS) :: (45, .ireturn, [], nS) :: L_X4_howManyNumbers_46
def L_X4_howManyNumbers_0 : List Item := (0, .iload_n 0, [], nS) :: (1, .tableswitch 51 0 6 #[43, 45, 47, 51, 51, 51, 49], [44, 46, 48, 52, 52, 52, 50, 52], nS) :: L_X4_howManyNumbers_44
def L_X4_howManyNumbers : List Item := L_X4_howManyNumbers_0
theorem ok_X4_howManyNumbers : okB cX4_howManyNumbers L_X4_howManyNumbers = true := by decide +kernel
theorem lk_X4_howManyNumbers (l : Launch) : LKs l RX4 1 false L_X4_howManyNumbers := ⟨trivial, trivial, trivial, trivial, trivial, trivial, trivial, trivial, trivial, trivial, trivial, trivial, trivial⟩
theorem b_X4_howManyNumbers_0 : atL L_X4_howManyNumbers 0 = L_X4_howManyNumbers_0 := rfl
theorem b_X4_howManyNumbers_44 : atL L_X4_howManyNumbers 44 = L_X4_howManyNumbers_44 := rfl
theorem b_X4_howManyNumbers_46 : atL L_X4_howManyNumbers 46 = L_X4_howManyNumbers_46 := rfl
theorem b_X4_howManyNumbers_48 : atL L_X4_howManyNumbers 48 = L_X4_howManyNumbers_48 := rfl
theorem b_X4_howManyNumbers_50 : atL L_X4_howManyNumbers 50 = L_X4_howManyNumbers_50 := rfl
theorem b_X4_howManyNumbers_52 : atL L_X4_howManyNumbers 52 = L_X4_howManyNumbers_52 := rfl
theorem a_X4_howManyNumbers_44 : afw L_X4_howManyNumbers [] 44 = L_X4_howManyNumbers_44 := rfl
theorem a_X4_howManyNumbers_46 : afw L_X4_howManyNumbers [] 46 = L_X4_howManyNumbers_46 := rfl
theorem a_X4_howManyNumbers_48 : afw L_X4_howManyNumbers [] 48 = L_X4_howManyNumbers_48 := rfl
theorem a_X4_howManyNumbers_50 : afw L_X4_howManyNumbers [] 50 = L_X4_howManyNumbers_50 := rfl
theorem a_X4_howManyNumbers_52 : afw L_X4_howManyNumbers [] 52 = L_X4_howManyNumbers_52 := rfl
theorem yv_X4_howManyNumbers : YS yX4_howManyNumbers cX4_howManyNumbers 1 (some .int) 1 := ⟨⟨gT_of (List.mem_of_getElem? (i := 406) (by decide +kernel)) rfl, gT_of (List.mem_of_getElem? (i := 29) (by decide +kernel)) rfl, ⟨by decide, by decide⟩, by decide +kernel, by decide⟩, gT_of (List.mem_of_getElem? (i := 405) (by decide +kernel)) rfl⟩
theorem u_X4_howManyNumbers_0 : L_X4_howManyNumbers_0 = (0, .iload_n 0, [], nS) :: (1, .tableswitch 51 0 6 #[43, 45, 47, 51, 51, 51, 49], [44, 46, 48, 52, 52, 52, 50, 52], nS) :: L_X4_howManyNumbers_44 := nr rfl
theorem u_X4_howManyNumbers_44 : L_X4_howManyNumbers_44 = (44, .iconst 3, [], nS) :: (45, .ireturn, [], nS) :: L_X4_howManyNumbers_46 := nr rfl
theorem u_X4_howManyNumbers_46 : L_X4_howManyNumbers_46 = (46, .iconst 4, [], nS) :: (47, .ireturn, [], nS) :: L_X4_howManyNumbers_48 := nr rfl
theorem u_X4_howManyNumbers_48 : L_X4_howManyNumbers_48 = (48, .iconst 2, [], nS) :: (49, .ireturn, [], nS) :: L_X4_howManyNumbers_50 := nr rfl
theorem u_X4_howManyNumbers_50 : L_X4_howManyNumbers_50 = (50, .iconst 2, [], nS) :: (51, .ireturn, [], nS) :: L_X4_howManyNumbers_52 := nr rfl
theorem u_X4_howManyNumbers_52 : L_X4_howManyNumbers_52 = (52, .iconst 1, [], nS) :: (53, .ireturn, [], nS) :: [] := nr rfl
theorem z_X4_howManyNumbers_0 : atL L_X4_howManyNumbers 0 = L_X4_howManyNumbers_0 := nr rfl
theorem z_X4_howManyNumbers_44 : atL L_X4_howManyNumbers 44 = L_X4_howManyNumbers_44 := nr rfl
theorem z_X4_howManyNumbers_46 : atL L_X4_howManyNumbers 46 = L_X4_howManyNumbers_46 := nr rfl
theorem z_X4_howManyNumbers_48 : atL L_X4_howManyNumbers 48 = L_X4_howManyNumbers_48 := nr rfl
theorem z_X4_howManyNumbers_50 : atL L_X4_howManyNumbers 50 = L_X4_howManyNumbers_50 := nr rfl
theorem z_X4_howManyNumbers_52 : atL L_X4_howManyNumbers 52 = L_X4_howManyNumbers_52 := nr rfl
theorem j_X4_howManyNumbers_44 {G : List Item → SpS → List Value → List Value → AH → Prop} {J : Nat → SpS → List Value → List Value → AH → Prop} {S : SpS} {lv st : List Value} {h : AH} : jmp G J (afw L_X4_howManyNumbers [] 44) 44 S lv st h = G L_X4_howManyNumbers_44 S lv st h := nr rfl
theorem j_X4_howManyNumbers_46 {G : List Item → SpS → List Value → List Value → AH → Prop} {J : Nat → SpS → List Value → List Value → AH → Prop} {S : SpS} {lv st : List Value} {h : AH} : jmp G J (afw L_X4_howManyNumbers [] 46) 46 S lv st h = G L_X4_howManyNumbers_46 S lv st h := nr rfl
theorem j_X4_howManyNumbers_48 {G : List Item → SpS → List Value → List Value → AH → Prop} {J : Nat → SpS → List Value → List Value → AH → Prop} {S : SpS} {lv st : List Value} {h : AH} : jmp G J (afw L_X4_howManyNumbers [] 48) 48 S lv st h = G L_X4_howManyNumbers_48 S lv st h := nr rfl
theorem j_X4_howManyNumbers_50 {G : List Item → SpS → List Value → List Value → AH → Prop} {J : Nat → SpS → List Value → List Value → AH → Prop} {S : SpS} {lv st : List Value} {h : AH} : jmp G J (afw L_X4_howManyNumbers [] 50) 50 S lv st h = G L_X4_howManyNumbers_50 S lv st h := nr rfl
theorem j_X4_howManyNumbers_52 {G : List Item → SpS → List Value → List Value → AH → Prop} {J : Nat → SpS → List Value → List Value → AH → Prop} {S : SpS} {lv st : List Value} {h : AH} : jmp G J (afw L_X4_howManyNumbers [] 52) 52 S lv st h = G L_X4_howManyNumbers_52 S lv st h := nr rfl
theorem e_X4_howManyNumbers {w : Int32} {h : AH} {K2 : Option Value → SpS → AH → Prop} : S_X4_howManyNumbers (SHn nn) [.int w] h K2 = (fun (K : Option Value → AH → Prop) => ∃ i : Nat, i < 7 ∧ w = nI i ∧ K (some (.int (nI (wantN (nI i))))) h) (fun v h' => K2 v (SHn nn) h') := (lift_e P_X4_howManyNumbers [.int w] h K2).trans (nr rfl)
set_option maxRecDepth 100000 in
set_option maxHeartbeats 4000000 in
theorem c_X4_howManyNumbers (l : Launch) : Ct l yX4_howManyNumbers cX4_howManyNumbers 1 (some .int) 1 0 0 S_X4_howManyNumbers := by
  refine Ct0_mk L_X4_howManyNumbers [] (by decide +kernel) (by decide) ok_X4_howManyNumbers (lk_X4_howManyNumbers l) ?_
  intro nn as h K hP
  match as, hP with
  | [.int w], ⟨i, hi, hw, hK⟩ =>
  refine ⟨by simp [slotsN, Value.category], fun J hJ => ?_⟩
  subst hw
  rcases (show i = 0 ∨ i = 1 ∨ i = 2 ∨ i = 3 ∨ i = 4 ∨ i = 5 ∨ i = 6 by omega) with rfl | rfl | rfl | rfl | rfl | rfl | rfl
  iterate 7
    refine hJ 0 _ _ _ _ ?_
    simp only [z_X4_howManyNumbers_0, u_X4_howManyNumbers_0, u_X4_howManyNumbers_44, u_X4_howManyNumbers_46, u_X4_howManyNumbers_48, u_X4_howManyNumbers_50, u_X4_howManyNumbers_52, j_X4_howManyNumbers_44, j_X4_howManyNumbers_46, j_X4_howManyNumbers_48, j_X4_howManyNumbers_50, j_X4_howManyNumbers_52, ev_iload_n0, ev_tableswitch, ev_sw1, ev_swc, ev_iconst, ev_iret, ro_i, ro_z, capO_z, kb_6, kb_11, kb_13, kb_15, kb_17, kb_18, kb_19, kb_23, kb_24, kb_25, kb_26, kb_29, kb_31, kb_35, kb_37, kb_41, kb_43, kb_44, kb_61, kb_75, kb_104, kb_7, kb_8, kb_9, kb_10, kb_12, kb_16, kb_20, kb_21, kb_30, kb_32, kb_40, kb_48, kb_50, kb_57, kb_59, kb_60, kb_63, kb_70, kb_78, kb_81, kb_82, kb_84, kb_97, kb_99, kb_100, kb_101, kb_119, kb_120, kb_122, ki_m1, ki_0, ki_1, ki_2, ki_3, ki_4, ki_5, ki_6, ki_7, ki_8, ki_9, ki_10, ki_11, ki_12, ki_13, ki_14, ki_15, ki_16, ki_17, ki_18, ki_19, ki_20, ki_21, ki_22, ki_23, ki_24, ki_25, ki_26, ki_27, ki_28, ki_29, ki_30, ki_31, ki_32, ki_33, ki_34, ki_35, ki_36, ki_37, ki_38, ki_39, ki_40, ki_41, ki_42, ki_43, ki_44, ki_45, ki_46, ki_47, ki_48, ki_49, ki_50, ki_51, ki_52, ki_53, ki_54, ki_55, ki_56, ki_57, ki_58, ki_59, ki_60, ki_61, ki_62, ki_63, ks_m2000, ks_m1006, ks_m1005, ks_m1004, ks_m1003, ks_m1002, ks_m1000, ks_200, ks_201, ks_300, ks_720, ks_9000, ks_10000, ks_250, ks_255, ks_256, ks_320, ks_660, ks_999, ks_1000, ks_9999, ks_12345, ne_2, ne_10, t_0, t_40, t_41, t_42, t_43, t_44, t_45, t_46, t_47, r_0_0, r_0_1, r_0_2, r_0_4, r_0_5, r_0_6, r_0_7, r_40_0, r_40_5, r_44_0, r_44_1, t_1, t_14, t_27, t_2, t_15, t_28, t_64, Nat.reduceEqDiff, ne_eq, not_false_eq_true, false_implies, true_implies, implies_true, Nat.reduceAdd, Nat.reduceLeDiff, Nat.reduceLT, Nat.reduceMul, or_true, true_or, if_true, if_false, not_true_eq_false, and_self, bF, Nat.reduceBEq, Bool.false_and, Bool.and_false, Bool.or_self, Bool.or_false, Bool.false_or, Bool.false_eq_true, Int.reduceAdd, Bool.and_self, Bool.true_and, Bool.and_true, beq_self_eq_true, not_not_, i10_, i01_, List.length_nil, List.length_cons, true_and, and_true, false_and, and_false, kl_i, kl_a, kl_n, kl_l, tl_s, tl_n, rv_S, pd_0, pd_e, pd_r, pd_i, pd_l]
    simp +decide only [false_implies, true_implies, and_true, true_and]
    exact hK
def mostB (E : ES) (i : Int32) : Int32 := if i = 0 then 5 else if i = 1 then 9 else if i = 2 then 999 else eS E 4 - 1
def mostN (E : ES) (w i : Int32) : Int32 := if w = 2 then (if i = 0 then eS E 4 - 1 else 999) else if w = 3 then 999 else if w = 4 then 999 else if w = 5 then 2 else if w = 6 then (if i = 0 then 7 else 9) else mostB E i
def P_X4_greatestOfBirth : Sp0T := fun as h K => match as with
  | [.int i, .ref b] => b = 14 ∧ ∃ j : Nat, j < 4 ∧ i = nI j ∧ K (some (.int (mostB (est h 14) (nI j)))) h
  | _ => False
def S_X4_greatestOfBirth : SpT := lift P_X4_greatestOfBirth
def L_X4_greatestOfBirth_37 : List Item := (37, .aload_n 1, [], nS) :: (38, .getfield 102, [0, 4, 0], nS) :: (41, .iconst 1, [], nS) :: (42, .isub, [], nS) :: (43, .ireturn, [], nS) :: []
def L_X4_greatestOfBirth_33 : List Item := (33, .sipush 999, [], nS) :: (36, .ireturn, [], nS) :: L_X4_greatestOfBirth_37
def L_X4_greatestOfBirth_30 : List Item := (30, .bipush 9, [], nS) :: (32, .ireturn, [], nS) :: L_X4_greatestOfBirth_33
def L_X4_greatestOfBirth_28 : List Item := (28, .iconst 5, [], nS) :: (29, .ireturn, [], nS) :: L_X4_greatestOfBirth_30
def L_X4_greatestOfBirth_0 : List Item := (0, .iload_n 0, [], nS) :: (1, .tableswitch 36 0 2 #[27, 29, 32], [28, 30, 33, 37], nS) :: L_X4_greatestOfBirth_28
def L_X4_greatestOfBirth : List Item := L_X4_greatestOfBirth_0
theorem ok_X4_greatestOfBirth : okB cX4_greatestOfBirth L_X4_greatestOfBirth = true := by decide +kernel
theorem lk_X4_greatestOfBirth (l : Launch) : LKs l RX4 1 false L_X4_greatestOfBirth := ⟨trivial, trivial, trivial, trivial, trivial, trivial, trivial, trivial, trivial, ⟨_, _, _, rfl, ⟨(RX0, TX0, 7), rfl, by decide, gT_of (List.mem_of_getElem? (i := 107) (by decide +kernel)) rfl⟩, rfl⟩, trivial, trivial, trivial, trivial⟩
theorem b_X4_greatestOfBirth_0 : atL L_X4_greatestOfBirth 0 = L_X4_greatestOfBirth_0 := rfl
theorem b_X4_greatestOfBirth_28 : atL L_X4_greatestOfBirth 28 = L_X4_greatestOfBirth_28 := rfl
theorem b_X4_greatestOfBirth_30 : atL L_X4_greatestOfBirth 30 = L_X4_greatestOfBirth_30 := rfl
theorem b_X4_greatestOfBirth_33 : atL L_X4_greatestOfBirth 33 = L_X4_greatestOfBirth_33 := rfl
theorem b_X4_greatestOfBirth_37 : atL L_X4_greatestOfBirth 37 = L_X4_greatestOfBirth_37 := rfl
theorem a_X4_greatestOfBirth_28 : afw L_X4_greatestOfBirth [] 28 = L_X4_greatestOfBirth_28 := rfl
theorem a_X4_greatestOfBirth_30 : afw L_X4_greatestOfBirth [] 30 = L_X4_greatestOfBirth_30 := rfl
theorem a_X4_greatestOfBirth_33 : afw L_X4_greatestOfBirth [] 33 = L_X4_greatestOfBirth_33 := rfl
theorem a_X4_greatestOfBirth_37 : afw L_X4_greatestOfBirth [] 37 = L_X4_greatestOfBirth_37 := rfl
theorem yv_X4_greatestOfBirth : YS yX4_greatestOfBirth cX4_greatestOfBirth 2 (some .int) 2 := ⟨⟨gT_of (List.mem_of_getElem? (i := 412) (by decide +kernel)) rfl, gT_of (List.mem_of_getElem? (i := 29) (by decide +kernel)) rfl, ⟨by decide, by decide⟩, by decide +kernel, by decide⟩, gT_of (List.mem_of_getElem? (i := 411) (by decide +kernel)) rfl⟩
theorem u_X4_greatestOfBirth_0 : L_X4_greatestOfBirth_0 = (0, .iload_n 0, [], nS) :: (1, .tableswitch 36 0 2 #[27, 29, 32], [28, 30, 33, 37], nS) :: L_X4_greatestOfBirth_28 := nr rfl
theorem u_X4_greatestOfBirth_28 : L_X4_greatestOfBirth_28 = (28, .iconst 5, [], nS) :: (29, .ireturn, [], nS) :: L_X4_greatestOfBirth_30 := nr rfl
theorem u_X4_greatestOfBirth_30 : L_X4_greatestOfBirth_30 = (30, .bipush 9, [], nS) :: (32, .ireturn, [], nS) :: L_X4_greatestOfBirth_33 := nr rfl
theorem u_X4_greatestOfBirth_33 : L_X4_greatestOfBirth_33 = (33, .sipush 999, [], nS) :: (36, .ireturn, [], nS) :: L_X4_greatestOfBirth_37 := nr rfl
theorem u_X4_greatestOfBirth_37 : L_X4_greatestOfBirth_37 = (37, .aload_n 1, [], nS) :: (38, .getfield 102, [0, 4, 0], nS) :: (41, .iconst 1, [], nS) :: (42, .isub, [], nS) :: (43, .ireturn, [], nS) :: [] := nr rfl
theorem z_X4_greatestOfBirth_0 : atL L_X4_greatestOfBirth 0 = L_X4_greatestOfBirth_0 := nr rfl
theorem z_X4_greatestOfBirth_28 : atL L_X4_greatestOfBirth 28 = L_X4_greatestOfBirth_28 := nr rfl
theorem z_X4_greatestOfBirth_30 : atL L_X4_greatestOfBirth 30 = L_X4_greatestOfBirth_30 := nr rfl
theorem z_X4_greatestOfBirth_33 : atL L_X4_greatestOfBirth 33 = L_X4_greatestOfBirth_33 := nr rfl
theorem z_X4_greatestOfBirth_37 : atL L_X4_greatestOfBirth 37 = L_X4_greatestOfBirth_37 := nr rfl
theorem j_X4_greatestOfBirth_28 {G : List Item → SpS → List Value → List Value → AH → Prop} {J : Nat → SpS → List Value → List Value → AH → Prop} {S : SpS} {lv st : List Value} {h : AH} : jmp G J (afw L_X4_greatestOfBirth [] 28) 28 S lv st h = G L_X4_greatestOfBirth_28 S lv st h := nr rfl
theorem j_X4_greatestOfBirth_30 {G : List Item → SpS → List Value → List Value → AH → Prop} {J : Nat → SpS → List Value → List Value → AH → Prop} {S : SpS} {lv st : List Value} {h : AH} : jmp G J (afw L_X4_greatestOfBirth [] 30) 30 S lv st h = G L_X4_greatestOfBirth_30 S lv st h := nr rfl
theorem j_X4_greatestOfBirth_33 {G : List Item → SpS → List Value → List Value → AH → Prop} {J : Nat → SpS → List Value → List Value → AH → Prop} {S : SpS} {lv st : List Value} {h : AH} : jmp G J (afw L_X4_greatestOfBirth [] 33) 33 S lv st h = G L_X4_greatestOfBirth_33 S lv st h := nr rfl
theorem j_X4_greatestOfBirth_37 {G : List Item → SpS → List Value → List Value → AH → Prop} {J : Nat → SpS → List Value → List Value → AH → Prop} {S : SpS} {lv st : List Value} {h : AH} : jmp G J (afw L_X4_greatestOfBirth [] 37) 37 S lv st h = G L_X4_greatestOfBirth_37 S lv st h := nr rfl
theorem e_X4_greatestOfBirth {i : Int32} {b : Addr} {h : AH} {K2 : Option Value → SpS → AH → Prop} : S_X4_greatestOfBirth (SHn nn) [.int i, .ref b] h K2 = (fun (K : Option Value → AH → Prop) => b = 14 ∧ ∃ j : Nat, j < 4 ∧ i = nI j ∧ K (some (.int (mostB (est h 14) (nI j)))) h) (fun v h' => K2 v (SHn nn) h') := (lift_e P_X4_greatestOfBirth [.int i, .ref b] h K2).trans (nr rfl)
set_option maxRecDepth 100000 in
set_option maxHeartbeats 4000000 in
theorem c_X4_greatestOfBirth (l : Launch) : Ct l yX4_greatestOfBirth cX4_greatestOfBirth 2 (some .int) 1 0 0 S_X4_greatestOfBirth := by
  refine Ct0_mk L_X4_greatestOfBirth [] (by decide +kernel) (by decide) ok_X4_greatestOfBirth (lk_X4_greatestOfBirth l) ?_
  intro nn as h K hP
  match as, hP with
  | [.int i, .ref b], ⟨hb, j, hj, hi, hK⟩ =>
  refine ⟨by simp [slotsN, Value.category], fun J hJ => ?_⟩
  subst hb hi
  have g4 := est_s (h := h) (b := 14) (k := 4) (by omega)
  unfold mostB at hK
  rcases (show j = 0 ∨ j = 1 ∨ j = 2 ∨ j = 3 by omega) with rfl | rfl | rfl | rfl
  iterate 4
    refine hJ 0 _ _ _ _ ?_
    simp only [z_X4_greatestOfBirth_0, u_X4_greatestOfBirth_0, u_X4_greatestOfBirth_28, u_X4_greatestOfBirth_30, u_X4_greatestOfBirth_33, u_X4_greatestOfBirth_37, j_X4_greatestOfBirth_28, j_X4_greatestOfBirth_30, j_X4_greatestOfBirth_33, j_X4_greatestOfBirth_37, ev_iload_n0, ev_tableswitch, ev_sw1, ev_swc, ev_iconst, ev_iret, ro_i, ro_z, ev_bipush, ev_sipush, ev_aload_n1, ev_getfI, ev_isub, capO_z, kb_6, kb_11, kb_13, kb_15, kb_17, kb_18, kb_19, kb_23, kb_24, kb_25, kb_26, kb_29, kb_31, kb_35, kb_37, kb_41, kb_43, kb_44, kb_61, kb_75, kb_104, kb_7, kb_8, kb_9, kb_10, kb_12, kb_16, kb_20, kb_21, kb_30, kb_32, kb_40, kb_48, kb_50, kb_57, kb_59, kb_60, kb_63, kb_70, kb_78, kb_81, kb_82, kb_84, kb_97, kb_99, kb_100, kb_101, kb_119, kb_120, kb_122, ki_m1, ki_0, ki_1, ki_2, ki_3, ki_4, ki_5, ki_6, ki_7, ki_8, ki_9, ki_10, ki_11, ki_12, ki_13, ki_14, ki_15, ki_16, ki_17, ki_18, ki_19, ki_20, ki_21, ki_22, ki_23, ki_24, ki_25, ki_26, ki_27, ki_28, ki_29, ki_30, ki_31, ki_32, ki_33, ki_34, ki_35, ki_36, ki_37, ki_38, ki_39, ki_40, ki_41, ki_42, ki_43, ki_44, ki_45, ki_46, ki_47, ki_48, ki_49, ki_50, ki_51, ki_52, ki_53, ki_54, ki_55, ki_56, ki_57, ki_58, ki_59, ki_60, ki_61, ki_62, ki_63, ks_m2000, ks_m1006, ks_m1005, ks_m1004, ks_m1003, ks_m1002, ks_m1000, ks_200, ks_201, ks_300, ks_720, ks_9000, ks_10000, ks_250, ks_255, ks_256, ks_320, ks_660, ks_999, ks_1000, ks_9999, ks_12345, ne_2, ne_10, t_0, t_40, t_41, t_42, t_43, t_44, t_45, t_46, t_47, r_0_0, r_0_1, r_0_2, r_0_4, r_0_5, r_0_6, r_0_7, r_40_0, r_40_5, r_44_0, r_44_1, t_1, t_14, t_27, t_2, t_15, t_28, t_64, Nat.reduceEqDiff, ne_eq, not_false_eq_true, false_implies, true_implies, implies_true, Nat.reduceAdd, Nat.reduceLeDiff, Nat.reduceLT, Nat.reduceMul, or_true, true_or, if_true, if_false, not_true_eq_false, and_self, bF, Nat.reduceBEq, Bool.false_and, Bool.and_false, Bool.or_self, Bool.or_false, Bool.false_or, Bool.false_eq_true, Int.reduceAdd, Bool.and_self, Bool.true_and, Bool.and_true, beq_self_eq_true, not_not_, i10_, i01_, List.length_nil, List.length_cons, true_and, and_true, false_and, and_false, kl_i, kl_a, kl_n, kl_l, tl_s, tl_n, rv_S, pd_0, pd_e, pd_r, pd_i, pd_l, tE isE14, ← g4]
    simp +decide only [false_implies, true_implies, and_true, true_and]
    exact hK
def P_X4_greatest : Sp0T := fun as h K => match as with
  | [.int w, .int i, .ref b] => b = 14 ∧ ∃ d j : Nat, d < 7 ∧ j < 4 ∧ w = nI d ∧ i = nI j ∧ K (some (.int (mostN (est h 14) (nI d) (nI j)))) h
  | _ => False
def S_X4_greatest : SpT := lift P_X4_greatest
def L_X4_greatest_75 : List Item := (75, .iload_n 1, [], nS) :: (76, .aload_n 2, [], nS) :: (77, .invokestatic 105, [0, 2, 0, 0], S_X4_greatestOfBirth) :: (80, .ireturn, [], nS) :: []
def L_X4_greatest_74 : List Item := (74, .ireturn, [], nS) :: L_X4_greatest_75
def L_X4_greatest_72 : List Item := (72, .bipush 9, [], nS) :: L_X4_greatest_74
def L_X4_greatest_63 : List Item := (63, .iload_n 1, [], nS) :: (64, .ifCond .ne 8, [72], nS) :: (67, .bipush 7, [], nS) :: (69, .goto 5, [74], nS) :: L_X4_greatest_72
def L_X4_greatest_61 : List Item := (61, .iconst 2, [], nS) :: (62, .ireturn, [], nS) :: L_X4_greatest_63
def L_X4_greatest_57 : List Item := (57, .sipush 999, [], nS) :: (60, .ireturn, [], nS) :: L_X4_greatest_61
def L_X4_greatest_53 : List Item := (53, .sipush 999, [], nS) :: (56, .ireturn, [], nS) :: L_X4_greatest_57
def L_X4_greatest_52 : List Item := (52, .ireturn, [], nS) :: L_X4_greatest_53
def L_X4_greatest_49 : List Item := (49, .sipush 999, [], nS) :: L_X4_greatest_52
def L_X4_greatest_36 : List Item := (36, .iload_n 1, [], nS) :: (37, .ifCond .ne 12, [49], nS) :: (40, .aload_n 2, [], nS) :: (41, .getfield 102, [0, 4, 0], nS) :: (44, .iconst 1, [], nS) :: (45, .isub, [], nS) :: (46, .goto 6, [52], nS) :: L_X4_greatest_49
def L_X4_greatest_0 : List Item := (0, .iload_n 0, [], nS) :: (1, .tableswitch 74 2 6 #[35, 52, 56, 60, 62], [36, 53, 57, 61, 63, 75], nS) :: L_X4_greatest_36
def L_X4_greatest : List Item := L_X4_greatest_0
theorem ok_X4_greatest : okB cX4_greatest L_X4_greatest = true := by decide +kernel
theorem lk_X4_greatest (l : Launch) : LKs l RX4 2 false L_X4_greatest := ⟨trivial, trivial, trivial, trivial, trivial, ⟨_, _, _, rfl, ⟨(RX0, TX0, 7), rfl, by decide, gT_of (List.mem_of_getElem? (i := 107) (by decide +kernel)) rfl⟩, rfl⟩, trivial, trivial, trivial, trivial, trivial, trivial, trivial, trivial, trivial, trivial, trivial, trivial, trivial, trivial, trivial, trivial, trivial, trivial, trivial, Or.inl ⟨_, _, _, _, _, _, _, _, rfl, c_X4_greatestOfBirth l, yv_X4_greatestOfBirth, by decide, gT_of (List.mem_of_getElem? (i := 410) (by decide +kernel)) rfl⟩, trivial, trivial⟩
theorem b_X4_greatest_0 : atL L_X4_greatest 0 = L_X4_greatest_0 := rfl
theorem b_X4_greatest_36 : atL L_X4_greatest 36 = L_X4_greatest_36 := rfl
theorem b_X4_greatest_49 : atL L_X4_greatest 49 = L_X4_greatest_49 := rfl
theorem b_X4_greatest_52 : atL L_X4_greatest 52 = L_X4_greatest_52 := rfl
theorem b_X4_greatest_53 : atL L_X4_greatest 53 = L_X4_greatest_53 := rfl
theorem b_X4_greatest_57 : atL L_X4_greatest 57 = L_X4_greatest_57 := rfl
theorem b_X4_greatest_61 : atL L_X4_greatest 61 = L_X4_greatest_61 := rfl
theorem b_X4_greatest_63 : atL L_X4_greatest 63 = L_X4_greatest_63 := rfl
theorem b_X4_greatest_72 : atL L_X4_greatest 72 = L_X4_greatest_72 := rfl
theorem b_X4_greatest_74 : atL L_X4_greatest 74 = L_X4_greatest_74 := rfl
theorem b_X4_greatest_75 : atL L_X4_greatest 75 = L_X4_greatest_75 := rfl
theorem a_X4_greatest_36 : afw L_X4_greatest [] 36 = L_X4_greatest_36 := rfl
theorem a_X4_greatest_49 : afw L_X4_greatest [] 49 = L_X4_greatest_49 := rfl
theorem a_X4_greatest_52 : afw L_X4_greatest [] 52 = L_X4_greatest_52 := rfl
theorem a_X4_greatest_53 : afw L_X4_greatest [] 53 = L_X4_greatest_53 := rfl
theorem a_X4_greatest_57 : afw L_X4_greatest [] 57 = L_X4_greatest_57 := rfl
theorem a_X4_greatest_61 : afw L_X4_greatest [] 61 = L_X4_greatest_61 := rfl
theorem a_X4_greatest_63 : afw L_X4_greatest [] 63 = L_X4_greatest_63 := rfl
theorem a_X4_greatest_72 : afw L_X4_greatest [] 72 = L_X4_greatest_72 := rfl
theorem a_X4_greatest_74 : afw L_X4_greatest [] 74 = L_X4_greatest_74 := rfl
theorem a_X4_greatest_75 : afw L_X4_greatest [] 75 = L_X4_greatest_75 := rfl
theorem yv_X4_greatest : YS yX4_greatest cX4_greatest 3 (some .int) 3 := ⟨⟨gT_of (List.mem_of_getElem? (i := 409) (by decide +kernel)) rfl, gT_of (List.mem_of_getElem? (i := 29) (by decide +kernel)) rfl, ⟨by decide, by decide⟩, by decide +kernel, by decide⟩, gT_of (List.mem_of_getElem? (i := 408) (by decide +kernel)) rfl⟩
theorem u_X4_greatest_0 : L_X4_greatest_0 = (0, .iload_n 0, [], nS) :: (1, .tableswitch 74 2 6 #[35, 52, 56, 60, 62], [36, 53, 57, 61, 63, 75], nS) :: L_X4_greatest_36 := nr rfl
theorem u_X4_greatest_36 : L_X4_greatest_36 = (36, .iload_n 1, [], nS) :: (37, .ifCond .ne 12, [49], nS) :: (40, .aload_n 2, [], nS) :: (41, .getfield 102, [0, 4, 0], nS) :: (44, .iconst 1, [], nS) :: (45, .isub, [], nS) :: (46, .goto 6, [52], nS) :: L_X4_greatest_49 := nr rfl
theorem u_X4_greatest_49 : L_X4_greatest_49 = (49, .sipush 999, [], nS) :: L_X4_greatest_52 := nr rfl
theorem u_X4_greatest_52 : L_X4_greatest_52 = (52, .ireturn, [], nS) :: L_X4_greatest_53 := nr rfl
theorem u_X4_greatest_53 : L_X4_greatest_53 = (53, .sipush 999, [], nS) :: (56, .ireturn, [], nS) :: L_X4_greatest_57 := nr rfl
theorem u_X4_greatest_57 : L_X4_greatest_57 = (57, .sipush 999, [], nS) :: (60, .ireturn, [], nS) :: L_X4_greatest_61 := nr rfl
theorem u_X4_greatest_61 : L_X4_greatest_61 = (61, .iconst 2, [], nS) :: (62, .ireturn, [], nS) :: L_X4_greatest_63 := nr rfl
theorem u_X4_greatest_63 : L_X4_greatest_63 = (63, .iload_n 1, [], nS) :: (64, .ifCond .ne 8, [72], nS) :: (67, .bipush 7, [], nS) :: (69, .goto 5, [74], nS) :: L_X4_greatest_72 := nr rfl
theorem u_X4_greatest_72 : L_X4_greatest_72 = (72, .bipush 9, [], nS) :: L_X4_greatest_74 := nr rfl
theorem u_X4_greatest_74 : L_X4_greatest_74 = (74, .ireturn, [], nS) :: L_X4_greatest_75 := nr rfl
theorem u_X4_greatest_75 : L_X4_greatest_75 = (75, .iload_n 1, [], nS) :: (76, .aload_n 2, [], nS) :: (77, .invokestatic 105, [0, 2, 0, 0], S_X4_greatestOfBirth) :: (80, .ireturn, [], nS) :: [] := nr rfl
theorem z_X4_greatest_0 : atL L_X4_greatest 0 = L_X4_greatest_0 := nr rfl
theorem z_X4_greatest_36 : atL L_X4_greatest 36 = L_X4_greatest_36 := nr rfl
theorem z_X4_greatest_49 : atL L_X4_greatest 49 = L_X4_greatest_49 := nr rfl
theorem z_X4_greatest_52 : atL L_X4_greatest 52 = L_X4_greatest_52 := nr rfl
theorem z_X4_greatest_53 : atL L_X4_greatest 53 = L_X4_greatest_53 := nr rfl
theorem z_X4_greatest_57 : atL L_X4_greatest 57 = L_X4_greatest_57 := nr rfl
theorem z_X4_greatest_61 : atL L_X4_greatest 61 = L_X4_greatest_61 := nr rfl
theorem z_X4_greatest_63 : atL L_X4_greatest 63 = L_X4_greatest_63 := nr rfl
theorem z_X4_greatest_72 : atL L_X4_greatest 72 = L_X4_greatest_72 := nr rfl
theorem z_X4_greatest_74 : atL L_X4_greatest 74 = L_X4_greatest_74 := nr rfl
theorem z_X4_greatest_75 : atL L_X4_greatest 75 = L_X4_greatest_75 := nr rfl
theorem j_X4_greatest_36 {G : List Item → SpS → List Value → List Value → AH → Prop} {J : Nat → SpS → List Value → List Value → AH → Prop} {S : SpS} {lv st : List Value} {h : AH} : jmp G J (afw L_X4_greatest [] 36) 36 S lv st h = G L_X4_greatest_36 S lv st h := nr rfl
theorem j_X4_greatest_49 {G : List Item → SpS → List Value → List Value → AH → Prop} {J : Nat → SpS → List Value → List Value → AH → Prop} {S : SpS} {lv st : List Value} {h : AH} : jmp G J (afw L_X4_greatest [] 49) 49 S lv st h = G L_X4_greatest_49 S lv st h := nr rfl
theorem j_X4_greatest_52 {G : List Item → SpS → List Value → List Value → AH → Prop} {J : Nat → SpS → List Value → List Value → AH → Prop} {S : SpS} {lv st : List Value} {h : AH} : jmp G J (afw L_X4_greatest [] 52) 52 S lv st h = G L_X4_greatest_52 S lv st h := nr rfl
theorem j_X4_greatest_53 {G : List Item → SpS → List Value → List Value → AH → Prop} {J : Nat → SpS → List Value → List Value → AH → Prop} {S : SpS} {lv st : List Value} {h : AH} : jmp G J (afw L_X4_greatest [] 53) 53 S lv st h = G L_X4_greatest_53 S lv st h := nr rfl
theorem j_X4_greatest_57 {G : List Item → SpS → List Value → List Value → AH → Prop} {J : Nat → SpS → List Value → List Value → AH → Prop} {S : SpS} {lv st : List Value} {h : AH} : jmp G J (afw L_X4_greatest [] 57) 57 S lv st h = G L_X4_greatest_57 S lv st h := nr rfl
theorem j_X4_greatest_61 {G : List Item → SpS → List Value → List Value → AH → Prop} {J : Nat → SpS → List Value → List Value → AH → Prop} {S : SpS} {lv st : List Value} {h : AH} : jmp G J (afw L_X4_greatest [] 61) 61 S lv st h = G L_X4_greatest_61 S lv st h := nr rfl
theorem j_X4_greatest_63 {G : List Item → SpS → List Value → List Value → AH → Prop} {J : Nat → SpS → List Value → List Value → AH → Prop} {S : SpS} {lv st : List Value} {h : AH} : jmp G J (afw L_X4_greatest [] 63) 63 S lv st h = G L_X4_greatest_63 S lv st h := nr rfl
theorem j_X4_greatest_72 {G : List Item → SpS → List Value → List Value → AH → Prop} {J : Nat → SpS → List Value → List Value → AH → Prop} {S : SpS} {lv st : List Value} {h : AH} : jmp G J (afw L_X4_greatest [] 72) 72 S lv st h = G L_X4_greatest_72 S lv st h := nr rfl
theorem j_X4_greatest_74 {G : List Item → SpS → List Value → List Value → AH → Prop} {J : Nat → SpS → List Value → List Value → AH → Prop} {S : SpS} {lv st : List Value} {h : AH} : jmp G J (afw L_X4_greatest [] 74) 74 S lv st h = G L_X4_greatest_74 S lv st h := nr rfl
theorem j_X4_greatest_75 {G : List Item → SpS → List Value → List Value → AH → Prop} {J : Nat → SpS → List Value → List Value → AH → Prop} {S : SpS} {lv st : List Value} {h : AH} : jmp G J (afw L_X4_greatest [] 75) 75 S lv st h = G L_X4_greatest_75 S lv st h := nr rfl
theorem e_X4_greatest {w : Int32} {i : Int32} {b : Addr} {h : AH} {K2 : Option Value → SpS → AH → Prop} : S_X4_greatest (SHn nn) [.int w, .int i, .ref b] h K2 = (fun (K : Option Value → AH → Prop) => b = 14 ∧ ∃ d j : Nat, d < 7 ∧ j < 4 ∧ w = nI d ∧ i = nI j ∧ K (some (.int (mostN (est h 14) (nI d) (nI j)))) h) (fun v h' => K2 v (SHn nn) h') := (lift_e P_X4_greatest [.int w, .int i, .ref b] h K2).trans (nr rfl)
set_option maxRecDepth 100000 in
set_option maxHeartbeats 4000000 in
theorem c_X4_greatest (l : Launch) : Ct l yX4_greatest cX4_greatest 3 (some .int) 2 0 0 S_X4_greatest := by
  refine Ct0_mk L_X4_greatest [] (by decide +kernel) (by decide) ok_X4_greatest (lk_X4_greatest l) ?_
  intro nn as h K hP
  match as, hP with
  | [.int w, .int i, .ref b], ⟨hb, d, j, hd, hj, hw, hi, hK⟩ =>
  refine ⟨by simp [slotsN, Value.category], fun J hJ => ?_⟩
  subst hb hw hi
  have g4 := est_s (h := h) (b := 14) (k := 4) (by omega)
  unfold mostN at hK
  by_cases j0_ : nI j = 0
  · rcases (show d = 0 ∨ d = 1 ∨ d = 2 ∨ d = 3 ∨ d = 4 ∨ d = 5 ∨ d = 6 by omega) with rfl | rfl | rfl | rfl | rfl | rfl | rfl
    iterate 7
      refine hJ 0 _ _ _ _ ?_
      simp only [z_X4_greatest_0, u_X4_greatest_0, u_X4_greatest_36, u_X4_greatest_49, u_X4_greatest_52, u_X4_greatest_53, u_X4_greatest_57, u_X4_greatest_61, u_X4_greatest_63, u_X4_greatest_72, u_X4_greatest_74, u_X4_greatest_75, j_X4_greatest_36, j_X4_greatest_49, j_X4_greatest_52, j_X4_greatest_53, j_X4_greatest_57, j_X4_greatest_61, j_X4_greatest_63, j_X4_greatest_72, j_X4_greatest_74, j_X4_greatest_75, ev_iload_n0, ev_tableswitch, ev_sw1, ev_swc, ev_iload_n1, ev_if_ne, ev_aload_n2, ev_getfI, ev_iconst, ev_isub, ev_goto, ev_sipush, ev_iret, ro_i, ro_z, ev_bipush, ev_callS2, ↓e_X4_greatestOfBirth, capO_z, kb_6, kb_11, kb_13, kb_15, kb_17, kb_18, kb_19, kb_23, kb_24, kb_25, kb_26, kb_29, kb_31, kb_35, kb_37, kb_41, kb_43, kb_44, kb_61, kb_75, kb_104, kb_7, kb_8, kb_9, kb_10, kb_12, kb_16, kb_20, kb_21, kb_30, kb_32, kb_40, kb_48, kb_50, kb_57, kb_59, kb_60, kb_63, kb_70, kb_78, kb_81, kb_82, kb_84, kb_97, kb_99, kb_100, kb_101, kb_119, kb_120, kb_122, ki_m1, ki_0, ki_1, ki_2, ki_3, ki_4, ki_5, ki_6, ki_7, ki_8, ki_9, ki_10, ki_11, ki_12, ki_13, ki_14, ki_15, ki_16, ki_17, ki_18, ki_19, ki_20, ki_21, ki_22, ki_23, ki_24, ki_25, ki_26, ki_27, ki_28, ki_29, ki_30, ki_31, ki_32, ki_33, ki_34, ki_35, ki_36, ki_37, ki_38, ki_39, ki_40, ki_41, ki_42, ki_43, ki_44, ki_45, ki_46, ki_47, ki_48, ki_49, ki_50, ki_51, ki_52, ki_53, ki_54, ki_55, ki_56, ki_57, ki_58, ki_59, ki_60, ki_61, ki_62, ki_63, ks_m2000, ks_m1006, ks_m1005, ks_m1004, ks_m1003, ks_m1002, ks_m1000, ks_200, ks_201, ks_300, ks_720, ks_9000, ks_10000, ks_250, ks_255, ks_256, ks_320, ks_660, ks_999, ks_1000, ks_9999, ks_12345, ne_2, ne_10, t_0, t_40, t_41, t_42, t_43, t_44, t_45, t_46, t_47, r_0_0, r_0_1, r_0_2, r_0_4, r_0_5, r_0_6, r_0_7, r_40_0, r_40_5, r_44_0, r_44_1, t_1, t_14, t_27, t_2, t_15, t_28, t_64, Nat.reduceEqDiff, ne_eq, not_false_eq_true, false_implies, true_implies, implies_true, Nat.reduceAdd, Nat.reduceLeDiff, Nat.reduceLT, Nat.reduceMul, or_true, true_or, if_true, if_false, not_true_eq_false, and_self, bF, Nat.reduceBEq, Bool.false_and, Bool.and_false, Bool.or_self, Bool.or_false, Bool.false_or, Bool.false_eq_true, Int.reduceAdd, Bool.and_self, Bool.true_and, Bool.and_true, beq_self_eq_true, not_not_, i10_, i01_, List.length_nil, List.length_cons, true_and, and_true, false_and, and_false, kl_i, kl_a, kl_n, kl_l, tl_s, tl_n, rv_S, pd_0, pd_e, pd_r, pd_i, pd_l, tE isE14, ← g4, eq_true j0_]
      simp +decide only [false_implies, true_implies, and_true, true_and, if_pos j0_] at hK ⊢
      first | exact hK | exact ⟨j, hj, rfl, hK⟩
  · rcases (show d = 0 ∨ d = 1 ∨ d = 2 ∨ d = 3 ∨ d = 4 ∨ d = 5 ∨ d = 6 by omega) with rfl | rfl | rfl | rfl | rfl | rfl | rfl
    iterate 7
      refine hJ 0 _ _ _ _ ?_
      simp only [z_X4_greatest_0, u_X4_greatest_0, u_X4_greatest_36, u_X4_greatest_49, u_X4_greatest_52, u_X4_greatest_53, u_X4_greatest_57, u_X4_greatest_61, u_X4_greatest_63, u_X4_greatest_72, u_X4_greatest_74, u_X4_greatest_75, j_X4_greatest_36, j_X4_greatest_49, j_X4_greatest_52, j_X4_greatest_53, j_X4_greatest_57, j_X4_greatest_61, j_X4_greatest_63, j_X4_greatest_72, j_X4_greatest_74, j_X4_greatest_75, ev_iload_n0, ev_tableswitch, ev_sw1, ev_swc, ev_iload_n1, ev_if_ne, ev_aload_n2, ev_getfI, ev_iconst, ev_isub, ev_goto, ev_sipush, ev_iret, ro_i, ro_z, ev_bipush, ev_callS2, ↓e_X4_greatestOfBirth, capO_z, kb_6, kb_11, kb_13, kb_15, kb_17, kb_18, kb_19, kb_23, kb_24, kb_25, kb_26, kb_29, kb_31, kb_35, kb_37, kb_41, kb_43, kb_44, kb_61, kb_75, kb_104, kb_7, kb_8, kb_9, kb_10, kb_12, kb_16, kb_20, kb_21, kb_30, kb_32, kb_40, kb_48, kb_50, kb_57, kb_59, kb_60, kb_63, kb_70, kb_78, kb_81, kb_82, kb_84, kb_97, kb_99, kb_100, kb_101, kb_119, kb_120, kb_122, ki_m1, ki_0, ki_1, ki_2, ki_3, ki_4, ki_5, ki_6, ki_7, ki_8, ki_9, ki_10, ki_11, ki_12, ki_13, ki_14, ki_15, ki_16, ki_17, ki_18, ki_19, ki_20, ki_21, ki_22, ki_23, ki_24, ki_25, ki_26, ki_27, ki_28, ki_29, ki_30, ki_31, ki_32, ki_33, ki_34, ki_35, ki_36, ki_37, ki_38, ki_39, ki_40, ki_41, ki_42, ki_43, ki_44, ki_45, ki_46, ki_47, ki_48, ki_49, ki_50, ki_51, ki_52, ki_53, ki_54, ki_55, ki_56, ki_57, ki_58, ki_59, ki_60, ki_61, ki_62, ki_63, ks_m2000, ks_m1006, ks_m1005, ks_m1004, ks_m1003, ks_m1002, ks_m1000, ks_200, ks_201, ks_300, ks_720, ks_9000, ks_10000, ks_250, ks_255, ks_256, ks_320, ks_660, ks_999, ks_1000, ks_9999, ks_12345, ne_2, ne_10, t_0, t_40, t_41, t_42, t_43, t_44, t_45, t_46, t_47, r_0_0, r_0_1, r_0_2, r_0_4, r_0_5, r_0_6, r_0_7, r_40_0, r_40_5, r_44_0, r_44_1, t_1, t_14, t_27, t_2, t_15, t_28, t_64, Nat.reduceEqDiff, ne_eq, not_false_eq_true, false_implies, true_implies, implies_true, Nat.reduceAdd, Nat.reduceLeDiff, Nat.reduceLT, Nat.reduceMul, or_true, true_or, if_true, if_false, not_true_eq_false, and_self, bF, Nat.reduceBEq, Bool.false_and, Bool.and_false, Bool.or_self, Bool.or_false, Bool.false_or, Bool.false_eq_true, Int.reduceAdd, Bool.and_self, Bool.true_and, Bool.and_true, beq_self_eq_true, not_not_, i10_, i01_, List.length_nil, List.length_cons, true_and, and_true, false_and, and_false, kl_i, kl_a, kl_n, kl_l, tl_s, tl_n, rv_S, pd_0, pd_e, pd_r, pd_i, pd_l, tE isE14, ← g4, eq_false j0_]
      simp +decide only [false_implies, true_implies, and_true, true_and, if_neg j0_] at hK ⊢
      first | exact hK | exact ⟨j, hj, rfl, hK⟩
