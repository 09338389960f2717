/-! ===== the model's tape: words and numbers ===== -/
def P_X6_isWord : Sp0T := fun as h K => match as with
  | [.ref x, .ref r] => x = 64 ∧ ∃ (i n : Nat) (B : Nat → Int32) (T : Nat × Nat × Int32), i < 7 ∧ r = 100000 + i ∧ n ≤ 250 ∧ goodT B n T ∧ B = gI h 74 ∧ tokM h B T ∧ K (some (.int (b2i (T.2.2 = 0 ∧ spB B T.1 T.2.1 i = true)))) h
  | _ => False
def S_X6_isWord : SpT := lift P_X6_isWord
def L_X6_isWord_64 : List Item := (64, .iconst 1, [], nS) :: (65, .ireturn, [], nS) :: []
def L_X6_isWord_58 : List Item := (58, .iinc 2 1, [], nS) :: (61, .goto (-32), [29], nS) :: L_X6_isWord_64
def L_X6_isWord_29 : List Item := (29, .iload_n 2, [], nS) :: (30, .aload_n 1, [], nS) :: (31, .invokevirtual 136, [0, 100, 0, 0], S_J0_length_8abf5) :: (34, .if_icmp .ge 30, [64], nS) :: (37, .aload_n 0, [], nS) :: (38, .getfield 37, [6, 12, 1], nS) :: (41, .aload_n 0, [], nS) :: (42, .getfield 121, [6, 13, 0], nS) :: (45, .iload_n 2, [], nS) :: (46, .iadd, [], nS) :: (47, .iaload, [], nS) :: (48, .aload_n 1, [], nS) :: (49, .iload_n 2, [], nS) :: (50, .invokevirtual 142, [1, 100, 0, 0], S_J0_charAt_5068e) :: (53, .if_icmp .eq 5, [58], nS) :: (56, .iconst 0, [], nS) :: (57, .ireturn, [], nS) :: L_X6_isWord_58
def L_X6_isWord_27 : List Item := (27, .iconst 0, [], nS) :: (28, .istore_n 2, [], nS) :: (29, .nop, [], nS) :: L_X6_isWord_29
def L_X6_isWord_25 : List Item := (25, .iconst 0, [], nS) :: (26, .ireturn, [], nS) :: L_X6_isWord_27
def L_X6_isWord_0 : List Item := (0, .aload_n 0, [], nS) :: (1, .getfield 124, [6, 15, 0], nS) :: (4, .bipush 119, [], nS) :: (6, .if_icmp .ne 19, [25], nS) :: (9, .aload_n 0, [], nS) :: (10, .getfield 118, [6, 14, 0], nS) :: (13, .aload_n 0, [], nS) :: (14, .getfield 121, [6, 13, 0], nS) :: (17, .isub, [], nS) :: (18, .aload_n 1, [], nS) :: (19, .invokevirtual 136, [0, 100, 0, 0], S_J0_length_8abf5) :: (22, .if_icmp .eq 5, [27], nS) :: L_X6_isWord_25
def L_X6_isWord : List Item := L_X6_isWord_0
theorem ok_X6_isWord : okB cX6_isWord L_X6_isWord = true := by decide +kernel
theorem lk_X6_isWord (l : Launch) : LKs l RX6 6 false L_X6_isWord := ⟨trivial, ⟨_, _, _, rfl, ⟨(RX6, TX6, 26), rfl, by decide, gT_of (List.mem_of_getElem? (i := 933) (by decide +kernel)) rfl⟩, rfl⟩, trivial, trivial, trivial, ⟨_, _, _, rfl, ⟨(RX6, TX6, 26), rfl, by decide, gT_of (List.mem_of_getElem? (i := 932) (by decide +kernel)) rfl⟩, rfl⟩, trivial, ⟨_, _, _, rfl, ⟨(RX6, TX6, 26), rfl, by decide, gT_of (List.mem_of_getElem? (i := 931) (by decide +kernel)) rfl⟩, rfl⟩, trivial, trivial, ⟨_, _, _, _, _, _, _, _, _, rfl, c_J0_length_8abf5 l, Or.inr ⟨rfl, yv_J0_length_8abf5⟩, by decide, gT_of (List.mem_of_getElem? (i := 1121) (by decide +kernel)) rfl⟩, trivial, trivial, trivial, trivial, trivial, trivial, trivial, trivial, ⟨_, _, _, _, _, _, _, _, _, rfl, c_J0_length_8abf5 l, Or.inr ⟨rfl, yv_J0_length_8abf5⟩, by decide, gT_of (List.mem_of_getElem? (i := 1121) (by decide +kernel)) rfl⟩, trivial, trivial, ⟨_, _, _, rfl, ⟨(RX6, TX6, 26), rfl, by decide, gT_of (List.mem_of_getElem? (i := 930) (by decide +kernel)) rfl⟩, rfl⟩, trivial, ⟨_, _, _, rfl, ⟨(RX6, TX6, 26), rfl, by decide, gT_of (List.mem_of_getElem? (i := 931) (by decide +kernel)) rfl⟩, rfl⟩, trivial, trivial, trivial, trivial, trivial, ⟨_, _, _, _, _, _, _, _, _, rfl, c_J0_charAt_5068e l, Or.inr ⟨rfl, yv_J0_charAt_5068e⟩, by decide, gT_of (List.mem_of_getElem? (i := 1122) (by decide +kernel)) rfl⟩, trivial, trivial, trivial, trivial, trivial, trivial, trivial, trivial⟩
theorem b_X6_isWord_0 : atL L_X6_isWord 0 = L_X6_isWord_0 := rfl
theorem b_X6_isWord_25 : atL L_X6_isWord 25 = L_X6_isWord_25 := rfl
theorem b_X6_isWord_27 : atL L_X6_isWord 27 = L_X6_isWord_27 := rfl
theorem b_X6_isWord_29 : atL L_X6_isWord 29 = L_X6_isWord_29 := rfl
theorem b_X6_isWord_58 : atL L_X6_isWord 58 = L_X6_isWord_58 := rfl
theorem b_X6_isWord_64 : atL L_X6_isWord 64 = L_X6_isWord_64 := rfl
theorem a_X6_isWord_25 : afw L_X6_isWord [29] 25 = L_X6_isWord_25 := rfl
theorem a_X6_isWord_27 : afw L_X6_isWord [29] 27 = L_X6_isWord_27 := rfl
theorem a_X6_isWord_58 : afw L_X6_isWord [29] 58 = L_X6_isWord_58 := rfl
theorem a_X6_isWord_64 : afw L_X6_isWord [29] 64 = L_X6_isWord_64 := rfl
theorem a_X6_isWord_29 : afw L_X6_isWord [29] 29 = [] := rfl
theorem yv_X6_isWord : YV yX6_isWord cX6_isWord 3 (some .boolean) 1 6 := ⟨⟨gT_of (List.mem_of_getElem? (i := 1120) (by decide +kernel)) rfl, gT_of (List.mem_of_getElem? (i := 74) (by decide +kernel)) rfl, ⟨by decide, by decide⟩, by decide +kernel, by decide⟩, gT_of (List.mem_of_getElem? (i := 1119) (by decide +kernel)) rfl, gT_of (List.mem_of_getElem? (i := 36) (by decide +kernel)) rfl, rfl⟩
theorem u_X6_isWord_0 : L_X6_isWord_0 = (0, .aload_n 0, [], nS) :: (1, .getfield 124, [6, 15, 0], nS) :: (4, .bipush 119, [], nS) :: (6, .if_icmp .ne 19, [25], nS) :: (9, .aload_n 0, [], nS) :: (10, .getfield 118, [6, 14, 0], nS) :: (13, .aload_n 0, [], nS) :: (14, .getfield 121, [6, 13, 0], nS) :: (17, .isub, [], nS) :: (18, .aload_n 1, [], nS) :: (19, .invokevirtual 136, [0, 100, 0, 0], S_J0_length_8abf5) :: (22, .if_icmp .eq 5, [27], nS) :: L_X6_isWord_25 := nr rfl
theorem u_X6_isWord_25 : L_X6_isWord_25 = (25, .iconst 0, [], nS) :: (26, .ireturn, [], nS) :: L_X6_isWord_27 := nr rfl
theorem u_X6_isWord_27 : L_X6_isWord_27 = (27, .iconst 0, [], nS) :: (28, .istore_n 2, [], nS) :: (29, .nop, [], nS) :: L_X6_isWord_29 := nr rfl
theorem u_X6_isWord_29 : L_X6_isWord_29 = (29, .iload_n 2, [], nS) :: (30, .aload_n 1, [], nS) :: (31, .invokevirtual 136, [0, 100, 0, 0], S_J0_length_8abf5) :: (34, .if_icmp .ge 30, [64], nS) :: (37, .aload_n 0, [], nS) :: (38, .getfield 37, [6, 12, 1], nS) :: (41, .aload_n 0, [], nS) :: (42, .getfield 121, [6, 13, 0], nS) :: (45, .iload_n 2, [], nS) :: (46, .iadd, [], nS) :: (47, .iaload, [], nS) :: (48, .aload_n 1, [], nS) :: (49, .iload_n 2, [], nS) :: (50, .invokevirtual 142, [1, 100, 0, 0], S_J0_charAt_5068e) :: (53, .if_icmp .eq 5, [58], nS) :: (56, .iconst 0, [], nS) :: (57, .ireturn, [], nS) :: L_X6_isWord_58 := nr rfl
theorem u_X6_isWord_58 : L_X6_isWord_58 = (58, .iinc 2 1, [], nS) :: (61, .goto (-32), [29], nS) :: L_X6_isWord_64 := nr rfl
theorem u_X6_isWord_64 : L_X6_isWord_64 = (64, .iconst 1, [], nS) :: (65, .ireturn, [], nS) :: [] := nr rfl
theorem z_X6_isWord_0 : atL L_X6_isWord 0 = L_X6_isWord_0 := nr rfl
theorem z_X6_isWord_25 : atL L_X6_isWord 25 = L_X6_isWord_25 := nr rfl
theorem z_X6_isWord_27 : atL L_X6_isWord 27 = L_X6_isWord_27 := nr rfl
theorem z_X6_isWord_29 : atL L_X6_isWord 29 = L_X6_isWord_29 := nr rfl
theorem z_X6_isWord_58 : atL L_X6_isWord 58 = L_X6_isWord_58 := nr rfl
theorem z_X6_isWord_64 : atL L_X6_isWord 64 = L_X6_isWord_64 := nr rfl
theorem j_X6_isWord_25 {G : List Item → SpS → List Value → List Value → AH → Prop} {J : Nat → SpS → List Value → List Value → AH → Prop} {S : SpS} {lv st : List Value} {h : AH} : jmp G J (afw L_X6_isWord [29] 25) 25 S lv st h = G L_X6_isWord_25 S lv st h := nr rfl
theorem j_X6_isWord_27 {G : List Item → SpS → List Value → List Value → AH → Prop} {J : Nat → SpS → List Value → List Value → AH → Prop} {S : SpS} {lv st : List Value} {h : AH} : jmp G J (afw L_X6_isWord [29] 27) 27 S lv st h = G L_X6_isWord_27 S lv st h := nr rfl
theorem j_X6_isWord_58 {G : List Item → SpS → List Value → List Value → AH → Prop} {J : Nat → SpS → List Value → List Value → AH → Prop} {S : SpS} {lv st : List Value} {h : AH} : jmp G J (afw L_X6_isWord [29] 58) 58 S lv st h = G L_X6_isWord_58 S lv st h := nr rfl
theorem j_X6_isWord_64 {G : List Item → SpS → List Value → List Value → AH → Prop} {J : Nat → SpS → List Value → List Value → AH → Prop} {S : SpS} {lv st : List Value} {h : AH} : jmp G J (afw L_X6_isWord [29] 64) 64 S lv st h = G L_X6_isWord_64 S lv st h := nr rfl
theorem j_X6_isWord_29 {G : List Item → SpS → List Value → List Value → AH → Prop} {J : Nat → SpS → List Value → List Value → AH → Prop} {S : SpS} {lv st : List Value} {h : AH} : jmp G J (afw L_X6_isWord [29] 29) 29 S lv st h = J 29 S lv st h := nr rfl
theorem e_X6_isWord {x : Addr} {r : Addr} {h : AH} {K2 : Option Value → SpS → AH → Prop} : S_X6_isWord SH0 [.ref x, .ref r] h K2 = (fun (K : Option Value → AH → Prop) => x = 64 ∧ ∃ (i n : Nat) (B : Nat → Int32) (T : Nat × Nat × Int32), i < 7 ∧ r = 100000 + i ∧ n ≤ 250 ∧ goodT B n T ∧ B = gI h 74 ∧ tokM h B T ∧ K (some (.int (b2i (T.2.2 = 0 ∧ spB B T.1 T.2.1 i = true)))) h) (fun v h' => K2 v SH0 h') := (lift_e P_X6_isWord [.ref x, .ref r] h K2).trans (nr rfl)
set_option maxRecDepth 100000 in
set_option maxHeartbeats 4000000 in
theorem c_X6_isWord (l : Launch) : Ct l yX6_isWord cX6_isWord 3 (some .boolean) 6 0 0 S_X6_isWord := by
  refine Ct0_mk L_X6_isWord [29] (by decide +kernel) (by decide) ok_X6_isWord (lk_X6_isWord l) ?_
  intro as h K hP
  match as, hP with
  | [.ref x, .ref r], ⟨hx, i, n, B, T, hi, hr, hn, hT, hB, ⟨t1, t2, t3, _⟩, hK⟩ =>
  refine ⟨by simp [slotsN, Value.category], fun J hJ => ?_⟩
  subst hx hr
  obtain ⟨s, e, k⟩ := T
  have hse : s ≤ e := hT.1
  have he : e ≤ n := hT.2.1
  have t1 : gI h 64 13 = nI s := t1
  have t2 : gI h 64 14 = nI e := t2
  have tk := tk_w (s, e, k)
  dsimp only at tk hK
  obtain ⟨hl6, -⟩ := ch_ok i hi
  generalize hL : lenJ.getD i 0 = len at *
  by_cases k0 : k = 0
  · refine hJ 0 _ _ _ _ ?_
    simp only [z_X6_isWord_0, u_X6_isWord_0, u_X6_isWord_25, u_X6_isWord_27, u_X6_isWord_29, u_X6_isWord_58, u_X6_isWord_64, j_X6_isWord_25, j_X6_isWord_27, j_X6_isWord_29, j_X6_isWord_58, j_X6_isWord_64, ev_aload_n0, ev_getfI, ev_bipush, ev_ic_ne, ev_isub, ev_aload_n1, ev_callJ0, ev_ic_eq, ev_iconst, ev_iret, ro_i, ro_z, ev_istore_n2, ev_nop, ev_iload_n2, ev_ic_ge, ev_getfR, ev_iadd, ev_iaload, ev_callJ1, ev_iinc2, ev_goto, ↓e_J0_charAt_5068e, ↓e_J0_length_8abf5, vq3_0, vq3_1, vq3_2, cq_0, cq_1, cq_2, capO_z, kb_6, kb_7, kb_8, kb_9, kb_10, kb_12, kb_16, kb_20, kb_21, kb_30, kb_32, kb_40, kb_48, kb_50, kb_57, kb_59, kb_60, kb_63, kb_70, kb_78, kb_81, kb_82, kb_84, kb_97, kb_99, kb_100, kb_101, kb_119, kb_120, kb_122, ki_m1, ki_0, ki_1, ki_2, ki_3, ki_4, ki_5, ki_6, ki_7, ki_8, ki_9, ki_10, ki_11, ki_12, ki_13, ki_14, ki_15, ki_16, ki_17, ki_18, ki_19, ki_20, ki_21, ki_22, ki_23, ki_24, ki_25, ki_26, ki_27, ki_28, ki_29, ki_30, ki_31, ki_32, ki_33, ki_34, ki_35, ki_36, ki_37, ki_38, ki_39, ki_40, ki_41, ki_42, ki_43, ki_44, ki_45, ki_46, ki_47, ki_48, ki_49, ki_50, ki_51, ki_52, ki_53, ki_54, ki_55, ki_56, ki_57, ki_58, ki_59, ki_60, ki_61, ki_62, ki_63, ks_m2000, ks_m1006, ks_m1005, ks_m1004, ks_m1003, ks_m1002, ks_m1000, ks_200, ks_250, ks_255, ks_256, ks_320, ks_660, ks_999, ks_1000, ks_9999, ks_12345, ne_2, ne_10, t_0, t_40, t_41, t_42, t_43, t_44, t_45, t_46, t_47, t_64, t_65, t_66, t_67, t_68, t_69, t_70, t_71, t_72, t_73, t_74, t_75, t_76, t_77, t_78, t_79, t_80, t_81, t_82, r_0_0, r_0_1, r_0_2, r_0_4, r_0_5, r_0_6, r_0_7, r_40_0, r_40_5, r_44_0, r_44_1, r_64_0, r_64_1, r_64_3, r_64_4, r_64_5, r_64_6, r_64_7, r_64_8, r_64_9, r_64_12, r_64_17, r_64_18, r_64_19, r_64_20, r_64_22, r_64_23, r_64_24, r_64_25, t_1, t_14, t_27, t_2, t_15, t_28, Nat.reduceEqDiff, ne_eq, not_false_eq_true, false_implies, true_implies, implies_true, Nat.reduceAdd, Nat.reduceLeDiff, Nat.reduceLT, Nat.reduceMul, or_true, true_or, if_true, if_false, not_true_eq_false, and_self, bF, Nat.reduceBEq, Bool.false_and, Bool.and_false, Bool.or_self, Bool.or_false, Bool.false_or, Bool.false_eq_true, Int.reduceAdd, Bool.and_self, Bool.true_and, Bool.and_true, beq_self_eq_true, not_not_, i10_, i01_, List.length_nil, List.length_cons, true_and, and_true, false_and, and_false, kl_i, kl_a, kl_n, kl_l, tl_s, tl_n, rv_S, pd_0, pd_e, pd_r, pd_i, pd_l, t1, t2, t3, tk, eq_true k0, nI_sub hse (show e < 2147483648 by omega), str7 hi, zero_z]
    refine ⟨i, hi, rfl, ?_⟩
    rw [hL, nI_inj (show e - s < 2147483648 by omega) (show len < 2147483648 by omega)]
    by_cases q : e - s = len
    · have no : ∀ a, a < len → ¬ gI h 74 (s + a) = chJ i a → K (some (.int 0)) SH0 h := fun a ha q2 => by
        rw [b2i_f (fun z => q2 (by rw [← hB]; exact (spB_y.mp z.2).2 a (by rw [hL]; exact ha)))] at hK
        exact hK
      have main : J 29 SH0 [.ref 64, .ref (100000 + i), .int 0] [] h := by
        refine dn (P := fun a => (∀ k, k < a → gI h 74 (s + k) = chJ i k) → J 29 SH0 [.ref 64, .ref (100000 + i), .int (nI a)] [] h) len ?_ (fun a ha ih hy => ?_) (fun k hk => absurd hk (Nat.not_lt_zero k))
        · intro hy
          rw [b2i_t ⟨k0, spB_y.mpr ⟨by rw [hL]; exact q.symm, fun a ha => by rw [hB]; exact hy a (by rw [← hL]; exact ha)⟩⟩] at hK
          refine hJ 29 _ _ _ _ ?_
          simp only [z_X6_isWord_29, u_X6_isWord_0, u_X6_isWord_25, u_X6_isWord_27, u_X6_isWord_29, u_X6_isWord_58, u_X6_isWord_64, j_X6_isWord_25, j_X6_isWord_27, j_X6_isWord_29, j_X6_isWord_58, j_X6_isWord_64, ev_aload_n0, ev_getfI, ev_bipush, ev_ic_ne, ev_isub, ev_aload_n1, ev_callJ0, ev_ic_eq, ev_iconst, ev_iret, ro_i, ro_z, ev_istore_n2, ev_nop, ev_iload_n2, ev_ic_ge, ev_getfR, ev_iadd, ev_iaload, ev_callJ1, ev_iinc2, ev_goto, ↓e_J0_charAt_5068e, ↓e_J0_length_8abf5, vq3_0, vq3_1, vq3_2, cq_0, cq_1, cq_2, capO_z, kb_6, kb_7, kb_8, kb_9, kb_10, kb_12, kb_16, kb_20, kb_21, kb_30, kb_32, kb_40, kb_48, kb_50, kb_57, kb_59, kb_60, kb_63, kb_70, kb_78, kb_81, kb_82, kb_84, kb_97, kb_99, kb_100, kb_101, kb_119, kb_120, kb_122, ki_m1, ki_0, ki_1, ki_2, ki_3, ki_4, ki_5, ki_6, ki_7, ki_8, ki_9, ki_10, ki_11, ki_12, ki_13, ki_14, ki_15, ki_16, ki_17, ki_18, ki_19, ki_20, ki_21, ki_22, ki_23, ki_24, ki_25, ki_26, ki_27, ki_28, ki_29, ki_30, ki_31, ki_32, ki_33, ki_34, ki_35, ki_36, ki_37, ki_38, ki_39, ki_40, ki_41, ki_42, ki_43, ki_44, ki_45, ki_46, ki_47, ki_48, ki_49, ki_50, ki_51, ki_52, ki_53, ki_54, ki_55, ki_56, ki_57, ki_58, ki_59, ki_60, ki_61, ki_62, ki_63, ks_m2000, ks_m1006, ks_m1005, ks_m1004, ks_m1003, ks_m1002, ks_m1000, ks_200, ks_250, ks_255, ks_256, ks_320, ks_660, ks_999, ks_1000, ks_9999, ks_12345, ne_2, ne_10, t_0, t_40, t_41, t_42, t_43, t_44, t_45, t_46, t_47, t_64, t_65, t_66, t_67, t_68, t_69, t_70, t_71, t_72, t_73, t_74, t_75, t_76, t_77, t_78, t_79, t_80, t_81, t_82, r_0_0, r_0_1, r_0_2, r_0_4, r_0_5, r_0_6, r_0_7, r_40_0, r_40_5, r_44_0, r_44_1, r_64_0, r_64_1, r_64_3, r_64_4, r_64_5, r_64_6, r_64_7, r_64_8, r_64_9, r_64_12, r_64_17, r_64_18, r_64_19, r_64_20, r_64_22, r_64_23, r_64_24, r_64_25, t_1, t_14, t_27, t_2, t_15, t_28, Nat.reduceEqDiff, ne_eq, not_false_eq_true, false_implies, true_implies, implies_true, Nat.reduceAdd, Nat.reduceLeDiff, Nat.reduceLT, Nat.reduceMul, or_true, true_or, if_true, if_false, not_true_eq_false, and_self, bF, Nat.reduceBEq, Bool.false_and, Bool.and_false, Bool.or_self, Bool.or_false, Bool.false_or, Bool.false_eq_true, Int.reduceAdd, Bool.and_self, Bool.true_and, Bool.and_true, beq_self_eq_true, not_not_, i10_, i01_, List.length_nil, List.length_cons, true_and, and_true, false_and, and_false, kl_i, kl_a, kl_n, kl_l, tl_s, tl_n, rv_S, pd_0, pd_e, pd_r, pd_i, pd_l, str7 hi, one_z]
          refine ⟨i, hi, rfl, ?_⟩
          rw [hL]
          exact ⟨fun _ => hK, fun z => absurd (Int32.le_refl _) z⟩
        · refine hJ 29 _ _ _ _ ?_
          simp only [z_X6_isWord_29, u_X6_isWord_0, u_X6_isWord_25, u_X6_isWord_27, u_X6_isWord_29, u_X6_isWord_58, u_X6_isWord_64, j_X6_isWord_25, j_X6_isWord_27, j_X6_isWord_29, j_X6_isWord_58, j_X6_isWord_64, ev_aload_n0, ev_getfI, ev_bipush, ev_ic_ne, ev_isub, ev_aload_n1, ev_callJ0, ev_ic_eq, ev_iconst, ev_iret, ro_i, ro_z, ev_istore_n2, ev_nop, ev_iload_n2, ev_ic_ge, ev_getfR, ev_iadd, ev_iaload, ev_callJ1, ev_iinc2, ev_goto, ↓e_J0_charAt_5068e, ↓e_J0_length_8abf5, vq3_0, vq3_1, vq3_2, cq_0, cq_1, cq_2, capO_z, kb_6, kb_7, kb_8, kb_9, kb_10, kb_12, kb_16, kb_20, kb_21, kb_30, kb_32, kb_40, kb_48, kb_50, kb_57, kb_59, kb_60, kb_63, kb_70, kb_78, kb_81, kb_82, kb_84, kb_97, kb_99, kb_100, kb_101, kb_119, kb_120, kb_122, ki_m1, ki_0, ki_1, ki_2, ki_3, ki_4, ki_5, ki_6, ki_7, ki_8, ki_9, ki_10, ki_11, ki_12, ki_13, ki_14, ki_15, ki_16, ki_17, ki_18, ki_19, ki_20, ki_21, ki_22, ki_23, ki_24, ki_25, ki_26, ki_27, ki_28, ki_29, ki_30, ki_31, ki_32, ki_33, ki_34, ki_35, ki_36, ki_37, ki_38, ki_39, ki_40, ki_41, ki_42, ki_43, ki_44, ki_45, ki_46, ki_47, ki_48, ki_49, ki_50, ki_51, ki_52, ki_53, ki_54, ki_55, ki_56, ki_57, ki_58, ki_59, ki_60, ki_61, ki_62, ki_63, ks_m2000, ks_m1006, ks_m1005, ks_m1004, ks_m1003, ks_m1002, ks_m1000, ks_200, ks_250, ks_255, ks_256, ks_320, ks_660, ks_999, ks_1000, ks_9999, ks_12345, ne_2, ne_10, t_0, t_40, t_41, t_42, t_43, t_44, t_45, t_46, t_47, t_64, t_65, t_66, t_67, t_68, t_69, t_70, t_71, t_72, t_73, t_74, t_75, t_76, t_77, t_78, t_79, t_80, t_81, t_82, r_0_0, r_0_1, r_0_2, r_0_4, r_0_5, r_0_6, r_0_7, r_40_0, r_40_5, r_44_0, r_44_1, r_64_0, r_64_1, r_64_3, r_64_4, r_64_5, r_64_6, r_64_7, r_64_8, r_64_9, r_64_12, r_64_17, r_64_18, r_64_19, r_64_20, r_64_22, r_64_23, r_64_24, r_64_25, t_1, t_14, t_27, t_2, t_15, t_28, Nat.reduceEqDiff, ne_eq, not_false_eq_true, false_implies, true_implies, implies_true, Nat.reduceAdd, Nat.reduceLeDiff, Nat.reduceLT, Nat.reduceMul, or_true, true_or, if_true, if_false, not_true_eq_false, and_self, bF, Nat.reduceBEq, Bool.false_and, Bool.and_false, Bool.or_self, Bool.or_false, Bool.false_or, Bool.false_eq_true, Int.reduceAdd, Bool.and_self, Bool.true_and, Bool.and_true, beq_self_eq_true, not_not_, i10_, i01_, List.length_nil, List.length_cons, true_and, and_true, false_and, and_false, kl_i, kl_a, kl_n, kl_l, tl_s, tl_n, rv_S, pd_0, pd_e, pd_r, pd_i, pd_l, str7 hi, t1, zero_z, nI_ad, vp250 (show s + a < 250 by omega), nI_clamp (show s + a < 2 ^ 31 by omega), nI_1]
          refine ⟨i, hi, rfl, ?_⟩
          rw [hL]
          refine ⟨fun z => absurd z (nI_ge ha (by omega)), fun _ => ⟨i, a, hi, rfl, by rw [hL]; exact ha, rfl, fun q2 => ?_, fun q2 => ?_⟩⟩
          · exact ih (fun k hk => by
              by_cases z : k < a
              · exact hy k z
              · rw [show k = a by omega]; exact q2)
          · exact no a ha q2
      exact ⟨fun _ => main, fun z => absurd q z⟩
    · rw [b2i_f (fun z => q (by rw [← hL]; exact (spB_y.mp z.2).1.symm))] at hK
      exact ⟨fun z => absurd z q, fun _ => hK⟩
  · rw [b2i_f (fun z => k0 z.1)] at hK
    refine hJ 0 _ _ _ _ ?_
    simp only [z_X6_isWord_0, u_X6_isWord_0, u_X6_isWord_25, u_X6_isWord_27, u_X6_isWord_29, u_X6_isWord_58, u_X6_isWord_64, j_X6_isWord_25, j_X6_isWord_27, j_X6_isWord_29, j_X6_isWord_58, j_X6_isWord_64, ev_aload_n0, ev_getfI, ev_bipush, ev_ic_ne, ev_isub, ev_aload_n1, ev_callJ0, ev_ic_eq, ev_iconst, ev_iret, ro_i, ro_z, ev_istore_n2, ev_nop, ev_iload_n2, ev_ic_ge, ev_getfR, ev_iadd, ev_iaload, ev_callJ1, ev_iinc2, ev_goto, ↓e_J0_charAt_5068e, ↓e_J0_length_8abf5, vq3_0, vq3_1, vq3_2, cq_0, cq_1, cq_2, capO_z, kb_6, kb_7, kb_8, kb_9, kb_10, kb_12, kb_16, kb_20, kb_21, kb_30, kb_32, kb_40, kb_48, kb_50, kb_57, kb_59, kb_60, kb_63, kb_70, kb_78, kb_81, kb_82, kb_84, kb_97, kb_99, kb_100, kb_101, kb_119, kb_120, kb_122, ki_m1, ki_0, ki_1, ki_2, ki_3, ki_4, ki_5, ki_6, ki_7, ki_8, ki_9, ki_10, ki_11, ki_12, ki_13, ki_14, ki_15, ki_16, ki_17, ki_18, ki_19, ki_20, ki_21, ki_22, ki_23, ki_24, ki_25, ki_26, ki_27, ki_28, ki_29, ki_30, ki_31, ki_32, ki_33, ki_34, ki_35, ki_36, ki_37, ki_38, ki_39, ki_40, ki_41, ki_42, ki_43, ki_44, ki_45, ki_46, ki_47, ki_48, ki_49, ki_50, ki_51, ki_52, ki_53, ki_54, ki_55, ki_56, ki_57, ki_58, ki_59, ki_60, ki_61, ki_62, ki_63, ks_m2000, ks_m1006, ks_m1005, ks_m1004, ks_m1003, ks_m1002, ks_m1000, ks_200, ks_250, ks_255, ks_256, ks_320, ks_660, ks_999, ks_1000, ks_9999, ks_12345, ne_2, ne_10, t_0, t_40, t_41, t_42, t_43, t_44, t_45, t_46, t_47, t_64, t_65, t_66, t_67, t_68, t_69, t_70, t_71, t_72, t_73, t_74, t_75, t_76, t_77, t_78, t_79, t_80, t_81, t_82, r_0_0, r_0_1, r_0_2, r_0_4, r_0_5, r_0_6, r_0_7, r_40_0, r_40_5, r_44_0, r_44_1, r_64_0, r_64_1, r_64_3, r_64_4, r_64_5, r_64_6, r_64_7, r_64_8, r_64_9, r_64_12, r_64_17, r_64_18, r_64_19, r_64_20, r_64_22, r_64_23, r_64_24, r_64_25, t_1, t_14, t_27, t_2, t_15, t_28, Nat.reduceEqDiff, ne_eq, not_false_eq_true, false_implies, true_implies, implies_true, Nat.reduceAdd, Nat.reduceLeDiff, Nat.reduceLT, Nat.reduceMul, or_true, true_or, if_true, if_false, not_true_eq_false, and_self, bF, Nat.reduceBEq, Bool.false_and, Bool.and_false, Bool.or_self, Bool.or_false, Bool.false_or, Bool.false_eq_true, Int.reduceAdd, Bool.and_self, Bool.true_and, Bool.and_true, beq_self_eq_true, not_not_, i10_, i01_, List.length_nil, List.length_cons, true_and, and_true, false_and, and_false, kl_i, kl_a, kl_n, kl_l, tl_s, tl_n, rv_S, pd_0, pd_e, pd_r, pd_i, pd_l, t3, tk, eq_false k0]
    exact hK
def numI (B : Nat → Int32) (T : Nat × Nat × Int32) (m : Int32) : Int32 := if numB B T m then valB B T.1 (T.2.1 - T.1) else -1
def P_X6_number : Sp0T := fun as h K => match as with
  | [.ref x, .int a, .int b] => x = 64 ∧ a = 0 ∧ ∃ n e : Nat, n ≤ 250 ∧ e ≤ n ∧ gI h 64 11 = nI n ∧ gI h 64 14 = nI e ∧ ∀ h', tokM h' (gI h 74) (nextB (gI h 74) n e) → frR h h' → K (some (.int (numI (gI h 74) (nextB (gI h 74) n e) b))) h'
  | _ => False
def S_X6_number : SpT := lift P_X6_number
def L_X6_number_33 : List Item := (33, .ireturn, [], nS) :: []
def L_X6_number_32 : List Item := (32, .iconst (-1), [], nS) :: L_X6_number_33
def L_X6_number_0 : List Item := (0, .aload_n 0, [], nS) :: (1, .invokevirtual 146, [0, 6, 0, 0], S_X6_next) :: (4, .aload_n 0, [], nS) :: (5, .getfield 124, [6, 15, 0], nS) :: (8, .bipush 48, [], nS) :: (10, .if_icmp .ne 22, [32], nS) :: (13, .aload_n 0, [], nS) :: (14, .getfield 133, [6, 16, 0], nS) :: (17, .iload_n 1, [], nS) :: (18, .iload_n 2, [], nS) :: (19, .invokestatic 72, [0, 3, 0, 0], S_X6_within) :: (22, .ifCond .eq 10, [32], nS) :: (25, .aload_n 0, [], nS) :: (26, .getfield 133, [6, 16, 0], nS) :: (29, .goto 4, [33], nS) :: L_X6_number_32
def L_X6_number : List Item := L_X6_number_0
theorem ok_X6_number : okB cX6_number L_X6_number = true := by decide +kernel
theorem lk_X6_number (l : Launch) : LKs l RX6 3 false L_X6_number := ⟨trivial, ⟨_, _, _, _, _, _, _, _, _, rfl, c_X6_next l, Or.inl ⟨by decide, yv_X6_next⟩, by decide, gT_of (List.mem_of_getElem? (i := 1102) (by decide +kernel)) rfl⟩, trivial, ⟨_, _, _, rfl, ⟨(RX6, TX6, 26), rfl, by decide, gT_of (List.mem_of_getElem? (i := 933) (by decide +kernel)) rfl⟩, rfl⟩, trivial, trivial, trivial, ⟨_, _, _, rfl, ⟨(RX6, TX6, 26), rfl, by decide, gT_of (List.mem_of_getElem? (i := 934) (by decide +kernel)) rfl⟩, rfl⟩, trivial, trivial, Or.inl ⟨_, _, _, _, _, _, _, _, rfl, c_X6_within l, yv_X6_within, by decide, gT_of (List.mem_of_getElem? (i := 1004) (by decide +kernel)) rfl⟩, trivial, trivial, ⟨_, _, _, rfl, ⟨(RX6, TX6, 26), rfl, by decide, gT_of (List.mem_of_getElem? (i := 934) (by decide +kernel)) rfl⟩, rfl⟩, trivial, trivial, trivial, trivial⟩
theorem b_X6_number_0 : atL L_X6_number 0 = L_X6_number_0 := rfl
theorem b_X6_number_32 : atL L_X6_number 32 = L_X6_number_32 := rfl
theorem b_X6_number_33 : atL L_X6_number 33 = L_X6_number_33 := rfl
theorem a_X6_number_32 : afw L_X6_number [] 32 = L_X6_number_32 := rfl
theorem a_X6_number_33 : afw L_X6_number [] 33 = L_X6_number_33 := rfl
theorem yv_X6_number : YV yX6_number cX6_number 3 (some .int) 2 6 := ⟨⟨gT_of (List.mem_of_getElem? (i := 1130) (by decide +kernel)) rfl, gT_of (List.mem_of_getElem? (i := 74) (by decide +kernel)) rfl, ⟨by decide, by decide⟩, by decide +kernel, by decide⟩, gT_of (List.mem_of_getElem? (i := 1129) (by decide +kernel)) rfl, gT_of (List.mem_of_getElem? (i := 38) (by decide +kernel)) rfl, rfl⟩
theorem u_X6_number_0 : L_X6_number_0 = (0, .aload_n 0, [], nS) :: (1, .invokevirtual 146, [0, 6, 0, 0], S_X6_next) :: (4, .aload_n 0, [], nS) :: (5, .getfield 124, [6, 15, 0], nS) :: (8, .bipush 48, [], nS) :: (10, .if_icmp .ne 22, [32], nS) :: (13, .aload_n 0, [], nS) :: (14, .getfield 133, [6, 16, 0], nS) :: (17, .iload_n 1, [], nS) :: (18, .iload_n 2, [], nS) :: (19, .invokestatic 72, [0, 3, 0, 0], S_X6_within) :: (22, .ifCond .eq 10, [32], nS) :: (25, .aload_n 0, [], nS) :: (26, .getfield 133, [6, 16, 0], nS) :: (29, .goto 4, [33], nS) :: L_X6_number_32 := nr rfl
theorem u_X6_number_32 : L_X6_number_32 = (32, .iconst (-1), [], nS) :: L_X6_number_33 := nr rfl
theorem u_X6_number_33 : L_X6_number_33 = (33, .ireturn, [], nS) :: [] := nr rfl
theorem z_X6_number_0 : atL L_X6_number 0 = L_X6_number_0 := nr rfl
theorem z_X6_number_32 : atL L_X6_number 32 = L_X6_number_32 := nr rfl
theorem z_X6_number_33 : atL L_X6_number 33 = L_X6_number_33 := nr rfl
theorem j_X6_number_32 {G : List Item → SpS → List Value → List Value → AH → Prop} {J : Nat → SpS → List Value → List Value → AH → Prop} {S : SpS} {lv st : List Value} {h : AH} : jmp G J (afw L_X6_number [] 32) 32 S lv st h = G L_X6_number_32 S lv st h := nr rfl
theorem j_X6_number_33 {G : List Item → SpS → List Value → List Value → AH → Prop} {J : Nat → SpS → List Value → List Value → AH → Prop} {S : SpS} {lv st : List Value} {h : AH} : jmp G J (afw L_X6_number [] 33) 33 S lv st h = G L_X6_number_33 S lv st h := nr rfl
theorem e_X6_number {x : Addr} {a : Int32} {b : Int32} {h : AH} {K2 : Option Value → SpS → AH → Prop} : S_X6_number SH0 [.ref x, .int a, .int b] h K2 = (fun (K : Option Value → AH → Prop) => x = 64 ∧ a = 0 ∧ ∃ n e : Nat, n ≤ 250 ∧ e ≤ n ∧ gI h 64 11 = nI n ∧ gI h 64 14 = nI e ∧ ∀ h', tokM h' (gI h 74) (nextB (gI h 74) n e) → frR h h' → K (some (.int (numI (gI h 74) (nextB (gI h 74) n e) b))) h') (fun v h' => K2 v SH0 h') := (lift_e P_X6_number [.ref x, .int a, .int b] h K2).trans (nr rfl)
set_option maxRecDepth 100000 in
set_option maxHeartbeats 4000000 in
theorem c_X6_number (l : Launch) : Ct l yX6_number cX6_number 3 (some .int) 3 0 0 S_X6_number := by
  refine Ct0_mk L_X6_number [] (by decide +kernel) (by decide) ok_X6_number (lk_X6_number l) ?_
  intro as h K hP
  match as, hP with
  | [.ref x, .int a, .int b], ⟨hx, ha, n, e, hn, he, g1, g2, hK⟩ =>
  refine ⟨by simp [slotsN, Value.category], fun J hJ => ?_⟩
  subst hx ha
  refine hJ 0 _ _ _ _ ?_
  simp only [z_X6_number_0, u_X6_number_0, u_X6_number_32, u_X6_number_33, j_X6_number_32, j_X6_number_33, ev_aload_n0, ev_callV0, ev_getfI, ev_bipush, ev_ic_ne, ev_iload_n1, ev_iload_n2, ev_callS3, ev_if_eq, ev_goto, ev_iconst, ev_iret, ro_i, ro_z, ↓e_X6_next, ↓e_X6_within, vq3_0, vq3_1, vq3_2, cq_0, cq_1, cq_2, capO_z, kb_6, kb_7, kb_8, kb_9, kb_10, kb_12, kb_16, kb_20, kb_21, kb_30, kb_32, kb_40, kb_48, kb_50, kb_57, kb_59, kb_60, kb_63, kb_70, kb_78, kb_81, kb_82, kb_84, kb_97, kb_99, kb_100, kb_101, kb_119, kb_120, kb_122, ki_m1, ki_0, ki_1, ki_2, ki_3, ki_4, ki_5, ki_6, ki_7, ki_8, ki_9, ki_10, ki_11, ki_12, ki_13, ki_14, ki_15, ki_16, ki_17, ki_18, ki_19, ki_20, ki_21, ki_22, ki_23, ki_24, ki_25, ki_26, ki_27, ki_28, ki_29, ki_30, ki_31, ki_32, ki_33, ki_34, ki_35, ki_36, ki_37, ki_38, ki_39, ki_40, ki_41, ki_42, ki_43, ki_44, ki_45, ki_46, ki_47, ki_48, ki_49, ki_50, ki_51, ki_52, ki_53, ki_54, ki_55, ki_56, ki_57, ki_58, ki_59, ki_60, ki_61, ki_62, ki_63, ks_m2000, ks_m1006, ks_m1005, ks_m1004, ks_m1003, ks_m1002, ks_m1000, ks_200, ks_250, ks_255, ks_256, ks_320, ks_660, ks_999, ks_1000, ks_9999, ks_12345, ne_2, ne_10, t_0, t_40, t_41, t_42, t_43, t_44, t_45, t_46, t_47, t_64, t_65, t_66, t_67, t_68, t_69, t_70, t_71, t_72, t_73, t_74, t_75, t_76, t_77, t_78, t_79, t_80, t_81, t_82, r_0_0, r_0_1, r_0_2, r_0_4, r_0_5, r_0_6, r_0_7, r_40_0, r_40_5, r_44_0, r_44_1, r_64_0, r_64_1, r_64_3, r_64_4, r_64_5, r_64_6, r_64_7, r_64_8, r_64_9, r_64_12, r_64_17, r_64_18, r_64_19, r_64_20, r_64_22, r_64_23, r_64_24, r_64_25, t_1, t_14, t_27, t_2, t_15, t_28, Nat.reduceEqDiff, ne_eq, not_false_eq_true, false_implies, true_implies, implies_true, Nat.reduceAdd, Nat.reduceLeDiff, Nat.reduceLT, Nat.reduceMul, or_true, true_or, if_true, if_false, not_true_eq_false, and_self, bF, Nat.reduceBEq, Bool.false_and, Bool.and_false, Bool.or_self, Bool.or_false, Bool.false_or, Bool.false_eq_true, Int.reduceAdd, Bool.and_self, Bool.true_and, Bool.and_true, beq_self_eq_true, not_not_, i10_, i01_, List.length_nil, List.length_cons, true_and, and_true, false_and, and_false, kl_i, kl_a, kl_n, kl_l, tl_s, tl_n, rv_S, pd_0, pd_e, pd_r, pd_i, pd_l]
  refine ⟨n, e, hn, he, g1, g2, fun h1 t1 f1 => ?_⟩
  have hT := nextB_g (gI h 74) he
  have yes := hK h1 t1 f1
  generalize gI h 74 = B at *
  generalize nextB B n e = T at *
  obtain ⟨-, -, t3, t4⟩ := t1
  unfold numI at yes
  by_cases q : T.2.2 = 1 ∧ T.2.1 - T.1 ≤ 3
  · obtain ⟨v, hv, ev⟩ := valB_d B T.1 (T.2.1 - T.1) q.2 (fun k hk => hT.2.2 q.1 _ (by omega) (by omega))
    have hv6 : v < 1000000 := Nat.lt_of_lt_of_le hv (Nat.le_trans (Nat.pow_le_pow_right (by omega) (show T.2.1 - T.1 ≤ 6 by omega)) (by decide))
    have e16 := t4 q.1 q.2
    by_cases q2 : valB B T.1 (T.2.1 - T.1) ≤ b
    · rw [if_pos ⟨q.1, q.2, q2⟩] at yes
      have c1 : (0 : Int32) ≤ valB B T.1 (T.2.1 - T.1) ∧ valB B T.1 (T.2.1 - T.1) ≤ b := ⟨by rw [ev]; exact nI_pos' (by omega), q2⟩
      simp only [u_X6_number_0, u_X6_number_32, u_X6_number_33, j_X6_number_32, j_X6_number_33, ev_aload_n0, ev_callV0, ev_getfI, ev_bipush, ev_ic_ne, ev_iload_n1, ev_iload_n2, ev_callS3, ev_if_eq, ev_goto, ev_iconst, ev_iret, ro_i, ro_z, ↓e_X6_next, ↓e_X6_within, vq3_0, vq3_1, vq3_2, cq_0, cq_1, cq_2, capO_z, kb_6, kb_7, kb_8, kb_9, kb_10, kb_12, kb_16, kb_20, kb_21, kb_30, kb_32, kb_40, kb_48, kb_50, kb_57, kb_59, kb_60, kb_63, kb_70, kb_78, kb_81, kb_82, kb_84, kb_97, kb_99, kb_100, kb_101, kb_119, kb_120, kb_122, ki_m1, ki_0, ki_1, ki_2, ki_3, ki_4, ki_5, ki_6, ki_7, ki_8, ki_9, ki_10, ki_11, ki_12, ki_13, ki_14, ki_15, ki_16, ki_17, ki_18, ki_19, ki_20, ki_21, ki_22, ki_23, ki_24, ki_25, ki_26, ki_27, ki_28, ki_29, ki_30, ki_31, ki_32, ki_33, ki_34, ki_35, ki_36, ki_37, ki_38, ki_39, ki_40, ki_41, ki_42, ki_43, ki_44, ki_45, ki_46, ki_47, ki_48, ki_49, ki_50, ki_51, ki_52, ki_53, ki_54, ki_55, ki_56, ki_57, ki_58, ki_59, ki_60, ki_61, ki_62, ki_63, ks_m2000, ks_m1006, ks_m1005, ks_m1004, ks_m1003, ks_m1002, ks_m1000, ks_200, ks_250, ks_255, ks_256, ks_320, ks_660, ks_999, ks_1000, ks_9999, ks_12345, ne_2, ne_10, t_0, t_40, t_41, t_42, t_43, t_44, t_45, t_46, t_47, t_64, t_65, t_66, t_67, t_68, t_69, t_70, t_71, t_72, t_73, t_74, t_75, t_76, t_77, t_78, t_79, t_80, t_81, t_82, r_0_0, r_0_1, r_0_2, r_0_4, r_0_5, r_0_6, r_0_7, r_40_0, r_40_5, r_44_0, r_44_1, r_64_0, r_64_1, r_64_3, r_64_4, r_64_5, r_64_6, r_64_7, r_64_8, r_64_9, r_64_12, r_64_17, r_64_18, r_64_19, r_64_20, r_64_22, r_64_23, r_64_24, r_64_25, t_1, t_14, t_27, t_2, t_15, t_28, Nat.reduceEqDiff, ne_eq, not_false_eq_true, false_implies, true_implies, implies_true, Nat.reduceAdd, Nat.reduceLeDiff, Nat.reduceLT, Nat.reduceMul, or_true, true_or, if_true, if_false, not_true_eq_false, and_self, bF, Nat.reduceBEq, Bool.false_and, Bool.and_false, Bool.or_self, Bool.or_false, Bool.false_or, Bool.false_eq_true, Int.reduceAdd, Bool.and_self, Bool.true_and, Bool.and_true, beq_self_eq_true, not_not_, i10_, i01_, List.length_nil, List.length_cons, true_and, and_true, false_and, and_false, kl_i, kl_a, kl_n, kl_l, tl_s, tl_n, rv_S, pd_0, pd_e, pd_r, pd_i, pd_l, t3, tk_n, eq_true q, e16, b2i_t c1, one_z]
      exact yes
    · rw [if_neg (fun z => q2 z.2.2)] at yes
      have c1 : ¬ ((0 : Int32) ≤ valB B T.1 (T.2.1 - T.1) ∧ valB B T.1 (T.2.1 - T.1) ≤ b) := fun z => q2 z.2
      simp only [u_X6_number_0, u_X6_number_32, u_X6_number_33, j_X6_number_32, j_X6_number_33, ev_aload_n0, ev_callV0, ev_getfI, ev_bipush, ev_ic_ne, ev_iload_n1, ev_iload_n2, ev_callS3, ev_if_eq, ev_goto, ev_iconst, ev_iret, ro_i, ro_z, ↓e_X6_next, ↓e_X6_within, vq3_0, vq3_1, vq3_2, cq_0, cq_1, cq_2, capO_z, kb_6, kb_7, kb_8, kb_9, kb_10, kb_12, kb_16, kb_20, kb_21, kb_30, kb_32, kb_40, kb_48, kb_50, kb_57, kb_59, kb_60, kb_63, kb_70, kb_78, kb_81, kb_82, kb_84, kb_97, kb_99, kb_100, kb_101, kb_119, kb_120, kb_122, ki_m1, ki_0, ki_1, ki_2, ki_3, ki_4, ki_5, ki_6, ki_7, ki_8, ki_9, ki_10, ki_11, ki_12, ki_13, ki_14, ki_15, ki_16, ki_17, ki_18, ki_19, ki_20, ki_21, ki_22, ki_23, ki_24, ki_25, ki_26, ki_27, ki_28, ki_29, ki_30, ki_31, ki_32, ki_33, ki_34, ki_35, ki_36, ki_37, ki_38, ki_39, ki_40, ki_41, ki_42, ki_43, ki_44, ki_45, ki_46, ki_47, ki_48, ki_49, ki_50, ki_51, ki_52, ki_53, ki_54, ki_55, ki_56, ki_57, ki_58, ki_59, ki_60, ki_61, ki_62, ki_63, ks_m2000, ks_m1006, ks_m1005, ks_m1004, ks_m1003, ks_m1002, ks_m1000, ks_200, ks_250, ks_255, ks_256, ks_320, ks_660, ks_999, ks_1000, ks_9999, ks_12345, ne_2, ne_10, t_0, t_40, t_41, t_42, t_43, t_44, t_45, t_46, t_47, t_64, t_65, t_66, t_67, t_68, t_69, t_70, t_71, t_72, t_73, t_74, t_75, t_76, t_77, t_78, t_79, t_80, t_81, t_82, r_0_0, r_0_1, r_0_2, r_0_4, r_0_5, r_0_6, r_0_7, r_40_0, r_40_5, r_44_0, r_44_1, r_64_0, r_64_1, r_64_3, r_64_4, r_64_5, r_64_6, r_64_7, r_64_8, r_64_9, r_64_12, r_64_17, r_64_18, r_64_19, r_64_20, r_64_22, r_64_23, r_64_24, r_64_25, t_1, t_14, t_27, t_2, t_15, t_28, Nat.reduceEqDiff, ne_eq, not_false_eq_true, false_implies, true_implies, implies_true, Nat.reduceAdd, Nat.reduceLeDiff, Nat.reduceLT, Nat.reduceMul, or_true, true_or, if_true, if_false, not_true_eq_false, and_self, bF, Nat.reduceBEq, Bool.false_and, Bool.and_false, Bool.or_self, Bool.or_false, Bool.false_or, Bool.false_eq_true, Int.reduceAdd, Bool.and_self, Bool.true_and, Bool.and_true, beq_self_eq_true, not_not_, i10_, i01_, List.length_nil, List.length_cons, true_and, and_true, false_and, and_false, kl_i, kl_a, kl_n, kl_l, tl_s, tl_n, rv_S, pd_0, pd_e, pd_r, pd_i, pd_l, t3, tk_n, eq_true q, e16, b2i_f c1, zero_z]
      exact yes
  · rw [if_neg (fun z => q ⟨z.1, z.2.1⟩)] at yes
    simp only [u_X6_number_0, u_X6_number_32, u_X6_number_33, j_X6_number_32, j_X6_number_33, ev_aload_n0, ev_callV0, ev_getfI, ev_bipush, ev_ic_ne, ev_iload_n1, ev_iload_n2, ev_callS3, ev_if_eq, ev_goto, ev_iconst, ev_iret, ro_i, ro_z, ↓e_X6_next, ↓e_X6_within, vq3_0, vq3_1, vq3_2, cq_0, cq_1, cq_2, capO_z, kb_6, kb_7, kb_8, kb_9, kb_10, kb_12, kb_16, kb_20, kb_21, kb_30, kb_32, kb_40, kb_48, kb_50, kb_57, kb_59, kb_60, kb_63, kb_70, kb_78, kb_81, kb_82, kb_84, kb_97, kb_99, kb_100, kb_101, kb_119, kb_120, kb_122, ki_m1, ki_0, ki_1, ki_2, ki_3, ki_4, ki_5, ki_6, ki_7, ki_8, ki_9, ki_10, ki_11, ki_12, ki_13, ki_14, ki_15, ki_16, ki_17, ki_18, ki_19, ki_20, ki_21, ki_22, ki_23, ki_24, ki_25, ki_26, ki_27, ki_28, ki_29, ki_30, ki_31, ki_32, ki_33, ki_34, ki_35, ki_36, ki_37, ki_38, ki_39, ki_40, ki_41, ki_42, ki_43, ki_44, ki_45, ki_46, ki_47, ki_48, ki_49, ki_50, ki_51, ki_52, ki_53, ki_54, ki_55, ki_56, ki_57, ki_58, ki_59, ki_60, ki_61, ki_62, ki_63, ks_m2000, ks_m1006, ks_m1005, ks_m1004, ks_m1003, ks_m1002, ks_m1000, ks_200, ks_250, ks_255, ks_256, ks_320, ks_660, ks_999, ks_1000, ks_9999, ks_12345, ne_2, ne_10, t_0, t_40, t_41, t_42, t_43, t_44, t_45, t_46, t_47, t_64, t_65, t_66, t_67, t_68, t_69, t_70, t_71, t_72, t_73, t_74, t_75, t_76, t_77, t_78, t_79, t_80, t_81, t_82, r_0_0, r_0_1, r_0_2, r_0_4, r_0_5, r_0_6, r_0_7, r_40_0, r_40_5, r_44_0, r_44_1, r_64_0, r_64_1, r_64_3, r_64_4, r_64_5, r_64_6, r_64_7, r_64_8, r_64_9, r_64_12, r_64_17, r_64_18, r_64_19, r_64_20, r_64_22, r_64_23, r_64_24, r_64_25, t_1, t_14, t_27, t_2, t_15, t_28, Nat.reduceEqDiff, ne_eq, not_false_eq_true, false_implies, true_implies, implies_true, Nat.reduceAdd, Nat.reduceLeDiff, Nat.reduceLT, Nat.reduceMul, or_true, true_or, if_true, if_false, not_true_eq_false, and_self, bF, Nat.reduceBEq, Bool.false_and, Bool.and_false, Bool.or_self, Bool.or_false, Bool.false_or, Bool.false_eq_true, Int.reduceAdd, Bool.and_self, Bool.true_and, Bool.and_true, beq_self_eq_true, not_not_, i10_, i01_, List.length_nil, List.length_cons, true_and, and_true, false_and, and_false, kl_i, kl_a, kl_n, kl_l, tl_s, tl_n, rv_S, pd_0, pd_e, pd_r, pd_i, pd_l, t3, tk_n, eq_false q]
    exact yes
theorem ch_ne : ∀ i, i < 7 → ∀ j, j < 7 → lenJ.getD i 0 = lenJ.getD j 0 → (∀ k, k < lenJ.getD i 0 → chJ i k = chJ j k) → i = j := by decide +kernel
theorem sp_1 {B : Nat → Int32} {s e i j : Nat} (hi : i < 7) (hj : j < 7) (h1 : spB B s e i = true) (h2 : spB B s e j = true) : i = j := by
  rw [spB_y] at h1 h2
  exact ch_ne i hi j hj (h1.1.trans h2.1.symm) (fun k hk => (h1.2 k hk).symm.trans (h2.2 k (by rw [h2.1, ← h1.1]; exact hk)))
theorem wordF_i (B : Nat → Int32) (s e : Nat) : ∀ r i, i + r = 7 → (wordF B s e r i = -1 ∧ ∀ j, i ≤ j → j < 7 → ¬ spB B s e j = true) ∨ ∃ d, d < 7 ∧ wordF B s e r i = nI d ∧ spB B s e d = true
  | 0, i, hi => Or.inl ⟨rfl, fun j h1 h2 => by omega⟩
  | r + 1, i, hi => by
    rw [wordF_s]
    by_cases q : spB B s e i = true
    · rw [if_pos q]; exact Or.inr ⟨i, by omega, rfl, q⟩
    · rw [if_neg q]
      rcases wordF_i B s e r (i + 1) (by omega) with ⟨h1, h2⟩ | h1
      · refine Or.inl ⟨h1, fun j j1 j2 => ?_⟩
        by_cases z : j = i
        · rw [z]; exact q
        · exact h2 j (by omega) j2
      · exact Or.inr h1
theorem word_no {B : Nat → Int32} {T : Nat × Nat × Int32} (h : wordB B T = -1) {i : Nat} (hi : i < 7) : ¬ (T.2.2 = 0 ∧ spB B T.1 T.2.1 i = true) := by
  rintro ⟨z1, z2⟩
  unfold wordB at h
  rw [if_pos z1] at h
  rcases wordF_i B T.1 T.2.1 7 0 rfl with ⟨-, h2⟩ | ⟨d, h1, h2, -⟩
  · exact h2 i (by omega) hi z2
  · rw [h2] at h
    exact absurd h (of_eq_false (nI_mm (by omega)))
theorem word_is {B : Nat → Int32} {T : Nat × Nat × Int32} {d : Nat} (hd : d < 7) (h : wordB B T = nI d) {i : Nat} (hi : i < 7) : (T.2.2 = 0 ∧ spB B T.1 T.2.1 i = true) ↔ i = d := by
  unfold wordB at h
  by_cases z1 : T.2.2 = 0
  · rw [if_pos z1] at h
    rcases wordF_i B T.1 T.2.1 7 0 rfl with ⟨h1, h2⟩ | ⟨d', h1, h2, h3⟩
    · rw [h1] at h
      exact absurd h.symm (of_eq_false (nI_mm (by omega)))
    · rw [h2, nI_inj (by omega) (by omega)] at h
      subst h
      exact ⟨fun z => sp_1 hi h1 z.2 h3, fun z => by rw [z]; exact ⟨z1, h3⟩⟩
  · rw [if_neg z1] at h
    exact absurd h.symm (of_eq_false (nI_mm (by omega)))
/-! what a statement of each word is -/
abbrev nxT (B : Nat → Int32) (n : Nat) (T : Nat × Nat × Int32) : Nat × Nat × Int32 := nextB B n T.2.1
abbrev vlT (B : Nat → Int32) (T : Nat × Nat × Int32) : Int32 := valB B T.1 (T.2.1 - T.1)
theorem stm_r {B : Nat → Int32} {n : Nat} {E : ES} {T : Nat × Nat × Int32} {d : Nat} (hd : d < 7) (hw : wordB B T = nI d) (hr : d < 2 → cnt E < 10) : stmtB B n E T = ((readN B n E (nI d) (wantN (nI d)) 0 T (fun _ => 0)).1, (readN B n E (nI d) (wantN (nI d)) 0 T (fun _ => 0)).2.1, if (readN B n E (nI d) (wantN (nI d)) 0 T (fun _ => 0)).1 = true then doE E (nI d) (readN B n E (nI d) (wantN (nI d)) 0 T (fun _ => 0)).2.2 else E) := by
  unfold stmtB
  rw [hw, if_neg]
  rintro (z | ⟨z, z2⟩)
  · exact absurd z (of_eq_false (nI_mm (by omega)))
  · refine z2 (hr ?_)
    rcases z with z | z
    · rw [show (0 : Int32) = nI 0 from rfl, nI_inj (by omega) (by omega)] at z; omega
    · rw [show (1 : Int32) = nI 1 from rfl, nI_inj (by omega) (by omega)] at z; omega
theorem rd_0 (B : Nat → Int32) (n : Nat) (E : ES) (w : Int32) (i : Nat) (T : Nat × Nat × Int32) (N : Nat → Int32) : readN B n E w 0 i T N = (true, T, N) := rfl
/-- one number is read -/
def rd1 (B : Nat → Int32) (n : Nat) (E : ES) (T : Nat × Nat × Int32) (a : Int32) (f : Int32 → ES) : Bool × (Nat × Nat × Int32) × ES := if numB B (nxT B n T) a then (true, nxT B n T, f (vlT B (nxT B n T))) else (false, nxT B n T, E)
/-- one number is read, then the rest -/
def rdc (B : Nat → Int32) (n : Nat) (E : ES) (T : Nat × Nat × Int32) (a : Int32) (g : Int32 → (Nat × Nat × Int32) → Bool × (Nat × Nat × Int32) × ES) : Bool × (Nat × Nat × Int32) × ES := if numB B (nxT B n T) a then g (vlT B (nxT B n T)) (nxT B n T) else (false, nxT B n T, E)
theorem rdc_y {B : Nat → Int32} {n : Nat} {E : ES} {T : Nat × Nat × Int32} {a : Int32} {g : Int32 → (Nat × Nat × Int32) → Bool × (Nat × Nat × Int32) × ES} (q : numB B (nxT B n T) a) : rdc B n E T a g = g (vlT B (nxT B n T)) (nxT B n T) := if_pos q
theorem rdc_n {B : Nat → Int32} {n : Nat} {E : ES} {T : Nat × Nat × Int32} {a : Int32} {g : Int32 → (Nat × Nat × Int32) → Bool × (Nat × Nat × Int32) × ES} (q : ¬ numB B (nxT B n T) a) : rdc B n E T a g = (false, nxT B n T, E) := if_neg q
theorem rd1_y {B : Nat → Int32} {n : Nat} {E : ES} {T : Nat × Nat × Int32} {a : Int32} {f : Int32 → ES} (q : numB B (nxT B n T) a) : rd1 B n E T a f = (true, nxT B n T, f (vlT B (nxT B n T))) := if_pos q
theorem rd1_n {B : Nat → Int32} {n : Nat} {E : ES} {T : Nat × Nat × Int32} {a : Int32} {f : Int32 → ES} (q : ¬ numB B (nxT B n T) a) : rd1 B n E T a f = (false, nxT B n T, E) := if_neg q
theorem num_y {B : Nat → Int32} {T : Nat × Nat × Int32} {a : Int32} (q : numB B T a) : numI B T a = vlT B T := if_pos q
theorem num_n {B : Nat → Int32} {T : Nat × Nat × Int32} {a : Int32} (q : ¬ numB B T a) : numI B T a = -1 := if_neg q
theorem stm_0 {B : Nat → Int32} {n : Nat} {E : ES} {T : Nat × Nat × Int32} (hw : wordB B T = nI 0) (hr : cnt E < 10) : stmtB B n E T = rdc B n E T 5 (fun k T1 => rdc B n E T1 9 (fun a T2 => rd1 B n E T2 999 (fun y => addE E k a y (-1)))) := by
  rw [stm_r (by omega) hw (fun _ => hr), show wantN (nI 0) = 3 from rfl]
  rw [readN_s, show mostN E (nI 0) (nI 0) = 5 from rfl]
  by_cases q1 : numB B (nxT B n T) 5
  · rw [if_pos q1, rdc_y q1, readN_s, show mostN E (nI 0) (nI (0 + 1)) = 9 from rfl]
    by_cases q2 : numB B (nxT B n (nxT B n T)) 9
    · rw [if_pos q2, rdc_y q2, readN_s, show mostN E (nI 0) (nI (0 + 1 + 1)) = 999 from rfl]
      by_cases q3 : numB B (nxT B n (nxT B n (nxT B n T))) 999
      · rw [if_pos q3, rd1_y q3]; rfl
      · rw [if_neg q3, rd1_n q3]; rfl
    · rw [if_neg q2, rdc_n q2]; rfl
  · rw [if_neg q1, rdc_n q1]; rfl
theorem stm_1 {B : Nat → Int32} {n : Nat} {E : ES} {T : Nat × Nat × Int32} (hw : wordB B T = nI 1) (hr : cnt E < 10) : stmtB B n E T = rdc B n E T 5 (fun k T1 => rdc B n E T1 9 (fun a T2 => rdc B n E T2 999 (fun y T3 => rd1 B n E T3 (eS E 4 - 1) (fun f => addE E k a y f)))) := by
  rw [stm_r (by omega) hw (fun _ => hr), show wantN (nI 1) = 4 from rfl]
  rw [readN_s, show mostN E (nI 1) (nI 0) = 5 from rfl]
  by_cases q1 : numB B (nxT B n T) 5
  · rw [if_pos q1, rdc_y q1, readN_s, show mostN E (nI 1) (nI (0 + 1)) = 9 from rfl]
    by_cases q2 : numB B (nxT B n (nxT B n T)) 9
    · rw [if_pos q2, rdc_y q2, readN_s, show mostN E (nI 1) (nI (0 + 1 + 1)) = 999 from rfl]
      by_cases q3 : numB B (nxT B n (nxT B n (nxT B n T))) 999
      · rw [if_pos q3, rdc_y q3, readN_s, show mostN E (nI 1) (nI (0 + 1 + 1 + 1)) = eS E 4 - 1 from rfl]
        by_cases q4 : numB B (nxT B n (nxT B n (nxT B n (nxT B n T)))) (eS E 4 - 1)
        · rw [if_pos q4, rd1_y q4]; rfl
        · rw [if_neg q4, rd1_n q4]; rfl
      · rw [if_neg q3, rdc_n q3]; rfl
    · rw [if_neg q2, rdc_n q2]; rfl
  · rw [if_neg q1, rdc_n q1]; rfl
theorem stm_2 {B : Nat → Int32} {n : Nat} {E : ES} {T : Nat × Nat × Int32} (hw : wordB B T = nI 2) : stmtB B n E T = rdc B n E T (eS E 4 - 1) (fun i T1 => rd1 B n E T1 999 (fun v => sF E (ix i) 4 v)) := by
  rw [stm_r (by omega) hw (fun z => by omega), show wantN (nI 2) = 2 from rfl]
  rw [readN_s, show mostN E (nI 2) (nI 0) = eS E 4 - 1 from rfl]
  by_cases q1 : numB B (nxT B n T) (eS E 4 - 1)
  · rw [if_pos q1, rdc_y q1, readN_s, show mostN E (nI 2) (nI (0 + 1)) = 999 from rfl]
    by_cases q2 : numB B (nxT B n (nxT B n T)) 999
    · rw [if_pos q2, rd1_y q2]; rfl
    · rw [if_neg q2, rd1_n q2]; rfl
  · rw [if_neg q1, rdc_n q1]; rfl
theorem stm_6 {B : Nat → Int32} {n : Nat} {E : ES} {T : Nat × Nat × Int32} (hw : wordB B T = nI 6) : stmtB B n E T = rdc B n E T 7 (fun i T1 => rd1 B n E T1 9 (fun v => sJ E (ix i) v)) := by
  rw [stm_r (by omega) hw (fun z => by omega), show wantN (nI 6) = 2 from rfl]
  rw [readN_s, show mostN E (nI 6) (nI 0) = 7 from rfl]
  by_cases q1 : numB B (nxT B n T) 7
  · rw [if_pos q1, rdc_y q1, readN_s, show mostN E (nI 6) (nI (0 + 1)) = 9 from rfl]
    by_cases q2 : numB B (nxT B n (nxT B n T)) 9
    · rw [if_pos q2, rd1_y q2]; rfl
    · rw [if_neg q2, rd1_n q2]; rfl
  · rw [if_neg q1, rdc_n q1]; rfl
theorem stm_3 {B : Nat → Int32} {n : Nat} {E : ES} {T : Nat × Nat × Int32} (hw : wordB B T = nI 3) : stmtB B n E T = rd1 B n E T 999 (fun v => sS E 0 v) := by
  rw [stm_r (by omega) hw (fun z => by omega), show wantN (nI 3) = 1 from rfl]
  rw [readN_s, show mostN E (nI 3) (nI 0) = 999 from rfl]
  by_cases q1 : numB B (nxT B n T) 999
  · rw [if_pos q1, rd1_y q1]; rfl
  · rw [if_neg q1, rd1_n q1]; rfl
theorem stm_4 {B : Nat → Int32} {n : Nat} {E : ES} {T : Nat × Nat × Int32} (hw : wordB B T = nI 4) : stmtB B n E T = rd1 B n E T 999 (fun v => sS E 1 v) := by
  rw [stm_r (by omega) hw (fun z => by omega), show wantN (nI 4) = 1 from rfl]
  rw [readN_s, show mostN E (nI 4) (nI 0) = 999 from rfl]
  by_cases q1 : numB B (nxT B n T) 999
  · rw [if_pos q1, rd1_y q1]; rfl
  · rw [if_neg q1, rd1_n q1]; rfl
theorem stm_5 {B : Nat → Int32} {n : Nat} {E : ES} {T : Nat × Nat × Int32} (hw : wordB B T = nI 5) : stmtB B n E T = rd1 B n E T 2 (fun v => sS E 2 v) := by
  rw [stm_r (by omega) hw (fun z => by omega), show wantN (nI 5) = 1 from rfl]
  rw [readN_s, show mostN E (nI 5) (nI 0) = 2 from rfl]
  by_cases q1 : numB B (nxT B n T) 2
  · rw [if_pos q1, rd1_y q1]; rfl
  · rw [if_neg q1, rd1_n q1]; rfl
