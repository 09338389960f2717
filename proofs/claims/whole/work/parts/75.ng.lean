/-! ===== the model's tape: tokens ===== -/
theorem sort_L {c : Int32} : sortI c = 0 ↔ ¬ c < 97 ∧ ¬ 122 < c := by
  unfold sortI
  by_cases q : ¬ c < 97 ∧ ¬ 122 < c
  · rw [if_pos q]; exact ⟨fun _ => q, fun _ => rfl⟩
  · rw [if_neg q]
    refine ⟨fun z => ?_, fun z => absurd z q⟩
    split at z
    · exact absurd z (by decide)
    · split at z <;> exact absurd z (by decide)
theorem sort_D {c : Int32} : sortI c = 1 ↔ ¬ c < 48 ∧ ¬ 57 < c := by
  unfold sortI
  by_cases q : ¬ c < 97 ∧ ¬ 122 < c
  · rw [if_pos q]
    exact ⟨fun z => absurd z (by decide), fun z => absurd (Int32.le_trans (Int32.not_lt.mp q.1) (Int32.not_lt.mp z.2)) (by decide)⟩
  · rw [if_neg q]
    by_cases q2 : ¬ c < 48 ∧ ¬ 57 < c
    · rw [if_pos q2]; exact ⟨fun _ => q2, fun _ => rfl⟩
    · rw [if_neg q2]
      refine ⟨fun z => ?_, fun z => absurd z q2⟩
      split at z <;> exact absurd z (by decide)
theorem sort_S {c : Int32} (h0 : ¬ sortI c = 0) (h1 : ¬ sortI c = 1) : (c = 59 → sortI c = 2) ∧ (¬ c = 59 → sortI c = 3) := by
  rw [sort_L] at h0
  rw [sort_D] at h1
  unfold sortI
  rw [if_neg h0, if_neg h1]
  exact ⟨fun z => if_pos z, fun z => if_neg z⟩
def P_X6_isLetter : Sp0T := fun as h K => match as with
  | [.int c] => K (some (.int (b2i (sortI c = 0)))) h
  | _ => False
def S_X6_isLetter : SpT := lift P_X6_isLetter
def L_X6_isLetter_17 : List Item := (17, .ireturn, [], nS) :: []
def L_X6_isLetter_16 : List Item := (16, .iconst 0, [], nS) :: L_X6_isLetter_17
def L_X6_isLetter_0 : List Item := (0, .iload_n 0, [], nS) :: (1, .bipush 97, [], nS) :: (3, .if_icmp .lt 13, [16], nS) :: (6, .iload_n 0, [], nS) :: (7, .bipush 122, [], nS) :: (9, .if_icmp .gt 7, [16], nS) :: (12, .iconst 1, [], nS) :: (13, .goto 4, [17], nS) :: L_X6_isLetter_16
def L_X6_isLetter : List Item := L_X6_isLetter_0
theorem ok_X6_isLetter : okB cX6_isLetter L_X6_isLetter = true := by decide +kernel
theorem lk_X6_isLetter (l : Launch) : LKs l RX6 1 false L_X6_isLetter := ⟨trivial, trivial, trivial, trivial, trivial, trivial, trivial, trivial, trivial, trivial, trivial⟩
theorem b_X6_isLetter_0 : atL L_X6_isLetter 0 = L_X6_isLetter_0 := rfl
theorem b_X6_isLetter_16 : atL L_X6_isLetter 16 = L_X6_isLetter_16 := rfl
theorem b_X6_isLetter_17 : atL L_X6_isLetter 17 = L_X6_isLetter_17 := rfl
theorem a_X6_isLetter_16 : afw L_X6_isLetter [] 16 = L_X6_isLetter_16 := rfl
theorem a_X6_isLetter_17 : afw L_X6_isLetter [] 17 = L_X6_isLetter_17 := rfl
theorem yv_X6_isLetter : YS yX6_isLetter cX6_isLetter 1 (some .boolean) 1 := ⟨⟨gT_of (List.mem_of_getElem? (i := 1108) (by decide +kernel)) rfl, gT_of (List.mem_of_getElem? (i := 74) (by decide +kernel)) rfl, ⟨by decide, by decide⟩, by decide +kernel, by decide⟩, gT_of (List.mem_of_getElem? (i := 1107) (by decide +kernel)) rfl⟩
theorem u_X6_isLetter_0 : L_X6_isLetter_0 = (0, .iload_n 0, [], nS) :: (1, .bipush 97, [], nS) :: (3, .if_icmp .lt 13, [16], nS) :: (6, .iload_n 0, [], nS) :: (7, .bipush 122, [], nS) :: (9, .if_icmp .gt 7, [16], nS) :: (12, .iconst 1, [], nS) :: (13, .goto 4, [17], nS) :: L_X6_isLetter_16 := nr rfl
theorem u_X6_isLetter_16 : L_X6_isLetter_16 = (16, .iconst 0, [], nS) :: L_X6_isLetter_17 := nr rfl
theorem u_X6_isLetter_17 : L_X6_isLetter_17 = (17, .ireturn, [], nS) :: [] := nr rfl
theorem z_X6_isLetter_0 : atL L_X6_isLetter 0 = L_X6_isLetter_0 := nr rfl
theorem z_X6_isLetter_16 : atL L_X6_isLetter 16 = L_X6_isLetter_16 := nr rfl
theorem z_X6_isLetter_17 : atL L_X6_isLetter 17 = L_X6_isLetter_17 := nr rfl
theorem j_X6_isLetter_16 {G : List Item → SpS → List Value → List Value → AH → Prop} {J : Nat → SpS → List Value → List Value → AH → Prop} {S : SpS} {lv st : List Value} {h : AH} : jmp G J (afw L_X6_isLetter [] 16) 16 S lv st h = G L_X6_isLetter_16 S lv st h := nr rfl
theorem j_X6_isLetter_17 {G : List Item → SpS → List Value → List Value → AH → Prop} {J : Nat → SpS → List Value → List Value → AH → Prop} {S : SpS} {lv st : List Value} {h : AH} : jmp G J (afw L_X6_isLetter [] 17) 17 S lv st h = G L_X6_isLetter_17 S lv st h := nr rfl
theorem e_X6_isLetter {c : Int32} {h : AH} {K2 : Option Value → SpS → AH → Prop} : S_X6_isLetter SH0 [.int c] h K2 = (fun (K : Option Value → AH → Prop) => K (some (.int (b2i (sortI c = 0)))) h) (fun v h' => K2 v SH0 h') := (lift_e P_X6_isLetter [.int c] h K2).trans (nr rfl)
set_option maxRecDepth 100000 in
set_option maxHeartbeats 4000000 in
theorem c_X6_isLetter (l : Launch) : Ct l yX6_isLetter cX6_isLetter 1 (some .boolean) 1 0 0 S_X6_isLetter := by
  refine Ct0_mk L_X6_isLetter [] (by decide +kernel) (by decide) ok_X6_isLetter (lk_X6_isLetter l) ?_
  intro as h K hP
  match as, hP with
  | [.int c], hK =>
  replace hK : (fun (K : Option Value → AH → Prop) => K (some (.int (b2i (sortI c = 0)))) h) (fun v h' => K v SH0 h') := hK
  dsimp only at hK
  refine ⟨by simp [slotsN, Value.category], fun J hJ => ?_⟩
  refine hJ 0 _ _ _ _ ?_
  simp only [z_X6_isLetter_0, u_X6_isLetter_0, u_X6_isLetter_16, u_X6_isLetter_17, j_X6_isLetter_16, j_X6_isLetter_17, ev_iload_n0, ev_bipush, ev_ic_lt, ev_ic_gt, ev_iconst, ev_goto, ev_iret, ro_i, ro_z, vq3_0, vq3_1, vq3_2, cq_0, cq_1, cq_2, capO_z, kb_6, kb_7, kb_8, kb_9, kb_10, kb_12, kb_16, kb_20, kb_21, kb_30, kb_32, kb_40, kb_48, kb_50, kb_57, kb_59, kb_60, kb_63, kb_70, kb_78, kb_81, kb_82, kb_84, kb_97, kb_99, kb_100, kb_101, kb_119, kb_120, kb_122, ki_m1, ki_0, ki_1, ki_2, ki_3, ki_4, ki_5, ki_6, ki_7, ki_8, ki_9, ki_10, ki_11, ki_12, ki_13, ki_14, ki_15, ki_16, ki_17, ki_18, ki_19, ki_20, ki_21, ki_22, ki_23, ki_24, ki_25, ki_26, ki_27, ki_28, ki_29, ki_30, ki_31, ki_32, ki_33, ki_34, ki_35, ki_36, ki_37, ki_38, ki_39, ki_40, ki_41, ki_42, ki_43, ki_44, ki_45, ki_46, ki_47, ki_48, ki_49, ki_50, ki_51, ki_52, ki_53, ki_54, ki_55, ki_56, ki_57, ki_58, ki_59, ki_60, ki_61, ki_62, ki_63, ks_m2000, ks_m1006, ks_m1005, ks_m1004, ks_m1003, ks_m1002, ks_m1000, ks_200, ks_250, ks_255, ks_256, ks_320, ks_660, ks_999, ks_1000, ks_9999, ks_12345, ne_2, ne_10, t_0, t_40, t_41, t_42, t_43, t_44, t_45, t_46, t_47, t_64, t_65, t_66, t_67, t_68, t_69, t_70, t_71, t_72, t_73, t_74, t_75, t_76, t_77, t_78, t_79, t_80, t_81, t_82, r_0_0, r_0_1, r_0_2, r_0_4, r_0_5, r_0_6, r_0_7, r_40_0, r_40_5, r_44_0, r_44_1, r_64_0, r_64_1, r_64_3, r_64_4, r_64_5, r_64_6, r_64_7, r_64_8, r_64_9, r_64_12, r_64_17, r_64_18, r_64_19, r_64_20, r_64_22, r_64_23, r_64_24, r_64_25, t_1, t_14, t_27, t_2, t_15, t_28, Nat.reduceEqDiff, ne_eq, not_false_eq_true, false_implies, true_implies, implies_true, Nat.reduceAdd, Nat.reduceLeDiff, Nat.reduceLT, Nat.reduceMul, or_true, true_or, if_true, if_false, not_true_eq_false, and_self, bF, Nat.reduceBEq, Bool.false_and, Bool.and_false, Bool.or_self, Bool.or_false, Bool.false_or, Bool.false_eq_true, Int.reduceAdd, Bool.and_self, Bool.true_and, Bool.and_true, beq_self_eq_true, not_not_, i10_, i01_, List.length_nil, List.length_cons, true_and, and_true, false_and, and_false, kl_i, kl_a, kl_n, kl_l, tl_s, tl_n, rv_S, pd_0, pd_e, pd_r, pd_i, pd_l]
  unfold b2i at hK
  refine ⟨fun q => ?_, fun q => ⟨fun q2 => ?_, fun q2 => ?_⟩⟩
  · rw [if_neg (fun z => (sort_L.mp z).1 q)] at hK; exact hK
  · rw [if_neg (fun z => (sort_L.mp z).2 q2)] at hK; exact hK
  · rw [if_pos (sort_L.mpr ⟨q, q2⟩)] at hK; exact hK
def P_X6_isDigit : Sp0T := fun as h K => match as with
  | [.int c] => K (some (.int (b2i (sortI c = 1)))) h
  | _ => False
def S_X6_isDigit : SpT := lift P_X6_isDigit
def L_X6_isDigit_17 : List Item := (17, .ireturn, [], nS) :: []
def L_X6_isDigit_16 : List Item := (16, .iconst 0, [], nS) :: L_X6_isDigit_17
def L_X6_isDigit_0 : List Item := (0, .iload_n 0, [], nS) :: (1, .bipush 48, [], nS) :: (3, .if_icmp .lt 13, [16], nS) :: (6, .iload_n 0, [], nS) :: (7, .bipush 57, [], nS) :: (9, .if_icmp .gt 7, [16], nS) :: (12, .iconst 1, [], nS) :: (13, .goto 4, [17], nS) :: L_X6_isDigit_16
def L_X6_isDigit : List Item := L_X6_isDigit_0
theorem ok_X6_isDigit : okB cX6_isDigit L_X6_isDigit = true := by decide +kernel
theorem lk_X6_isDigit (l : Launch) : LKs l RX6 1 false L_X6_isDigit := ⟨trivial, trivial, trivial, trivial, trivial, trivial, trivial, trivial, trivial, trivial, trivial⟩
theorem b_X6_isDigit_0 : atL L_X6_isDigit 0 = L_X6_isDigit_0 := rfl
theorem b_X6_isDigit_16 : atL L_X6_isDigit 16 = L_X6_isDigit_16 := rfl
theorem b_X6_isDigit_17 : atL L_X6_isDigit 17 = L_X6_isDigit_17 := rfl
theorem a_X6_isDigit_16 : afw L_X6_isDigit [] 16 = L_X6_isDigit_16 := rfl
theorem a_X6_isDigit_17 : afw L_X6_isDigit [] 17 = L_X6_isDigit_17 := rfl
theorem yv_X6_isDigit : YS yX6_isDigit cX6_isDigit 1 (some .boolean) 1 := ⟨⟨gT_of (List.mem_of_getElem? (i := 1111) (by decide +kernel)) rfl, gT_of (List.mem_of_getElem? (i := 74) (by decide +kernel)) rfl, ⟨by decide, by decide⟩, by decide +kernel, by decide⟩, gT_of (List.mem_of_getElem? (i := 1110) (by decide +kernel)) rfl⟩
theorem u_X6_isDigit_0 : L_X6_isDigit_0 = (0, .iload_n 0, [], nS) :: (1, .bipush 48, [], nS) :: (3, .if_icmp .lt 13, [16], nS) :: (6, .iload_n 0, [], nS) :: (7, .bipush 57, [], nS) :: (9, .if_icmp .gt 7, [16], nS) :: (12, .iconst 1, [], nS) :: (13, .goto 4, [17], nS) :: L_X6_isDigit_16 := nr rfl
theorem u_X6_isDigit_16 : L_X6_isDigit_16 = (16, .iconst 0, [], nS) :: L_X6_isDigit_17 := nr rfl
theorem u_X6_isDigit_17 : L_X6_isDigit_17 = (17, .ireturn, [], nS) :: [] := nr rfl
theorem z_X6_isDigit_0 : atL L_X6_isDigit 0 = L_X6_isDigit_0 := nr rfl
theorem z_X6_isDigit_16 : atL L_X6_isDigit 16 = L_X6_isDigit_16 := nr rfl
theorem z_X6_isDigit_17 : atL L_X6_isDigit 17 = L_X6_isDigit_17 := nr rfl
theorem j_X6_isDigit_16 {G : List Item → SpS → List Value → List Value → AH → Prop} {J : Nat → SpS → List Value → List Value → AH → Prop} {S : SpS} {lv st : List Value} {h : AH} : jmp G J (afw L_X6_isDigit [] 16) 16 S lv st h = G L_X6_isDigit_16 S lv st h := nr rfl
theorem j_X6_isDigit_17 {G : List Item → SpS → List Value → List Value → AH → Prop} {J : Nat → SpS → List Value → List Value → AH → Prop} {S : SpS} {lv st : List Value} {h : AH} : jmp G J (afw L_X6_isDigit [] 17) 17 S lv st h = G L_X6_isDigit_17 S lv st h := nr rfl
theorem e_X6_isDigit {c : Int32} {h : AH} {K2 : Option Value → SpS → AH → Prop} : S_X6_isDigit SH0 [.int c] h K2 = (fun (K : Option Value → AH → Prop) => K (some (.int (b2i (sortI c = 1)))) h) (fun v h' => K2 v SH0 h') := (lift_e P_X6_isDigit [.int c] h K2).trans (nr rfl)
set_option maxRecDepth 100000 in
set_option maxHeartbeats 4000000 in
theorem c_X6_isDigit (l : Launch) : Ct l yX6_isDigit cX6_isDigit 1 (some .boolean) 1 0 0 S_X6_isDigit := by
  refine Ct0_mk L_X6_isDigit [] (by decide +kernel) (by decide) ok_X6_isDigit (lk_X6_isDigit l) ?_
  intro as h K hP
  match as, hP with
  | [.int c], hK =>
  replace hK : (fun (K : Option Value → AH → Prop) => K (some (.int (b2i (sortI c = 1)))) h) (fun v h' => K v SH0 h') := hK
  dsimp only at hK
  refine ⟨by simp [slotsN, Value.category], fun J hJ => ?_⟩
  refine hJ 0 _ _ _ _ ?_
  simp only [z_X6_isDigit_0, u_X6_isDigit_0, u_X6_isDigit_16, u_X6_isDigit_17, j_X6_isDigit_16, j_X6_isDigit_17, ev_iload_n0, ev_bipush, ev_ic_lt, ev_ic_gt, ev_iconst, ev_goto, ev_iret, ro_i, ro_z, vq3_0, vq3_1, vq3_2, cq_0, cq_1, cq_2, capO_z, kb_6, kb_7, kb_8, kb_9, kb_10, kb_12, kb_16, kb_20, kb_21, kb_30, kb_32, kb_40, kb_48, kb_50, kb_57, kb_59, kb_60, kb_63, kb_70, kb_78, kb_81, kb_82, kb_84, kb_97, kb_99, kb_100, kb_101, kb_119, kb_120, kb_122, ki_m1, ki_0, ki_1, ki_2, ki_3, ki_4, ki_5, ki_6, ki_7, ki_8, ki_9, ki_10, ki_11, ki_12, ki_13, ki_14, ki_15, ki_16, ki_17, ki_18, ki_19, ki_20, ki_21, ki_22, ki_23, ki_24, ki_25, ki_26, ki_27, ki_28, ki_29, ki_30, ki_31, ki_32, ki_33, ki_34, ki_35, ki_36, ki_37, ki_38, ki_39, ki_40, ki_41, ki_42, ki_43, ki_44, ki_45, ki_46, ki_47, ki_48, ki_49, ki_50, ki_51, ki_52, ki_53, ki_54, ki_55, ki_56, ki_57, ki_58, ki_59, ki_60, ki_61, ki_62, ki_63, ks_m2000, ks_m1006, ks_m1005, ks_m1004, ks_m1003, ks_m1002, ks_m1000, ks_200, ks_250, ks_255, ks_256, ks_320, ks_660, ks_999, ks_1000, ks_9999, ks_12345, ne_2, ne_10, t_0, t_40, t_41, t_42, t_43, t_44, t_45, t_46, t_47, t_64, t_65, t_66, t_67, t_68, t_69, t_70, t_71, t_72, t_73, t_74, t_75, t_76, t_77, t_78, t_79, t_80, t_81, t_82, r_0_0, r_0_1, r_0_2, r_0_4, r_0_5, r_0_6, r_0_7, r_40_0, r_40_5, r_44_0, r_44_1, r_64_0, r_64_1, r_64_3, r_64_4, r_64_5, r_64_6, r_64_7, r_64_8, r_64_9, r_64_12, r_64_17, r_64_18, r_64_19, r_64_20, r_64_22, r_64_23, r_64_24, r_64_25, t_1, t_14, t_27, t_2, t_15, t_28, Nat.reduceEqDiff, ne_eq, not_false_eq_true, false_implies, true_implies, implies_true, Nat.reduceAdd, Nat.reduceLeDiff, Nat.reduceLT, Nat.reduceMul, or_true, true_or, if_true, if_false, not_true_eq_false, and_self, bF, Nat.reduceBEq, Bool.false_and, Bool.and_false, Bool.or_self, Bool.or_false, Bool.false_or, Bool.false_eq_true, Int.reduceAdd, Bool.and_self, Bool.true_and, Bool.and_true, beq_self_eq_true, not_not_, i10_, i01_, List.length_nil, List.length_cons, true_and, and_true, false_and, and_false, kl_i, kl_a, kl_n, kl_l, tl_s, tl_n, rv_S, pd_0, pd_e, pd_r, pd_i, pd_l]
  unfold b2i at hK
  refine ⟨fun q => ?_, fun q => ⟨fun q2 => ?_, fun q2 => ?_⟩⟩
  · rw [if_neg (fun z => (sort_D.mp z).1 q)] at hK; exact hK
  · rw [if_neg (fun z => (sort_D.mp z).2 q2)] at hK; exact hK
  · rw [if_pos (sort_D.mpr ⟨q, q2⟩)] at hK; exact hK
/-- the model's sign for a token -/
def tkI (T : Nat × Nat × Int32) : Int32 := if T.2.2 = 0 then 119 else if T.2.2 = 1 then (if T.2.1 - T.1 ≤ 3 then 48 else 120) else if T.2.2 = 2 then 59 else if T.2.2 = 4 then 101 else 120
theorem tk_w (T : Nat × Nat × Int32) : (tkI T = 119) = (T.2.2 = 0) := by
  unfold tkI
  refine propext ⟨fun z => ?_, fun z => if_pos z⟩
  by_cases q : T.2.2 = 0
  · exact q
  · rw [if_neg q] at z
    split at z
    · split at z <;> exact absurd z (by decide)
    · split at z
      · exact absurd z (by decide)
      · split at z <;> exact absurd z (by decide)
theorem tk_n (T : Nat × Nat × Int32) : (tkI T = 48) = (T.2.2 = 1 ∧ T.2.1 - T.1 ≤ 3) := by
  unfold tkI
  refine propext ⟨fun z => ?_, fun z => ?_⟩
  · split at z
    · exact absurd z (by decide)
    · split at z
      · rename_i q
        split at z
        · rename_i q2; exact ⟨q, q2⟩
        · exact absurd z (by decide)
      · split at z
        · exact absurd z (by decide)
        · split at z <;> exact absurd z (by decide)
  · rw [if_neg (by rw [z.1]; decide), if_pos z.1, if_pos z.2]
theorem tk_e (T : Nat × Nat × Int32) : (tkI T = 101) = (T.2.2 = 4) := by
  unfold tkI
  refine propext ⟨fun z => ?_, fun z => ?_⟩
  · split at z
    · exact absurd z (by decide)
    · split at z
      · split at z <;> exact absurd z (by decide)
      · split at z
        · exact absurd z (by decide)
        · split at z
          · rename_i q; exact q
          · exact absurd z (by decide)
  · rw [if_neg (by rw [z]; decide), if_neg (by rw [z]; decide), if_neg (by rw [z]; decide), if_pos z]
theorem tk_s (T : Nat × Nat × Int32) : (tkI T = 59) = (T.2.2 = 2) := by
  unfold tkI
  refine propext ⟨fun z => ?_, fun z => ?_⟩
  · split at z
    · exact absurd z (by decide)
    · split at z
      · split at z <;> exact absurd z (by decide)
      · split at z
        · rename_i q; exact q
        · split at z <;> exact absurd z (by decide)
  · rw [if_neg (by rw [z]; decide), if_neg (by rw [z]; decide), if_pos z]
def tokM (h : AH) (B : Nat → Int32) (T : Nat × Nat × Int32) : Prop := gI h 64 13 = nI T.1 ∧ gI h 64 14 = nI T.2.1 ∧ gI h 64 15 = tkI T ∧ (T.2.2 = 1 → T.2.1 - T.1 ≤ 3 → gI h 64 16 = valB B T.1 (T.2.1 - T.1))
/-- the model's reader has gone on: nothing else -/
def frR (h h' : AH) : Prop := (∀ c k, ¬ (c = 64 ∧ 13 ≤ k ∧ k ≤ 16) → gI h' c k = gI h c k) ∧ ∀ c k, gJ h' c k = gJ h c k
theorem frR_rf (h : AH) : frR h h := ⟨fun _ _ _ => rfl, fun _ _ => rfl⟩
theorem frR_tr {h h' h'' : AH} (p1 : frR h h') (p2 : frR h' h'') : frR h h'' := ⟨fun c k hc => (p2.1 c k hc).trans (p1.1 c k hc), fun c k => (p2.2 c k).trans (p1.2 c k)⟩
theorem frR_t {h h' : AH} {k : Nat} {v : Int32} (hf : frR h h') (hk : 13 ≤ k ∧ k ≤ 16) : frR h (pI h' 64 k v) := ⟨fun c k' hc => by rw [gI_pI, if_neg (by omega)]; exact hf.1 c k' hc, hf.2⟩
theorem frR_B {h h' : AH} (hf : frR h h') : gI h' 74 = gI h 74 := funext fun k => hf.1 74 k (by omega)
theorem frR_S {h h' : AH} (hf : frR h h') : gI h' 64 11 = gI h 64 11 := hf.1 64 11 (by omega)
theorem frR_E {h h' : AH} (hf : frR h h') : estM h' = estM h := em_fr (fun c k hc => hf.1 c k (by unfold isM at hc; omega))
theorem gM_t (h : AH) (k k' : Nat) (v : Int32) : gI (pI h 64 k v) 64 k' = if k' = k then v else gI h 64 k' := by
  rw [gI_pI]
  by_cases q : k' = k
  · rw [if_pos ⟨rfl, q⟩, if_pos q]
  · rw [if_neg (fun z => q z.2), if_neg q]
theorem gM_b (h : AH) (k : Nat) (v : Int32) : gI (pI h 64 k v) 74 = gI h 74 := funext fun j => by rw [gI_pI, if_neg (by omega)]
theorem valB_1 (B : Nat → Int32) (s : Nat) : valB B s 1 = B s - 48 := by
  show (0 : Int32) * 10 + B (s + 0) - 48 = _
  rw [Int32.zero_mul, Int32.zero_add]; rfl
theorem vq_ne {a b : Nat} (h : a < b) (hb : b < 2147483648) : (nI a = nI b) = False := by rw [nI_inj (by omega) hb]; exact eq_false (by omega)
def P_X6_next : Sp0T := fun as h K => match as with
  | [.ref x] => x = 64 ∧ ∃ n e : Nat, n ≤ 250 ∧ e ≤ n ∧ gI h 64 11 = nI n ∧ gI h 64 14 = nI e ∧ ∀ h', tokM h' (gI h 74) (nextB (gI h 74) n e) → frR h h' → K none h'
  | _ => False
def S_X6_next : SpT := lift P_X6_next
def L_X6_next_279 : List Item := (279, .return_, [], nS) :: []
def L_X6_next_276 : List Item := (276, .putfield 124, [6, 15, 0], nS) :: L_X6_next_279
def L_X6_next_274 : List Item := (274, .bipush 120, [], nS) :: L_X6_next_276
def L_X6_next_262 : List Item := (262, .aload_n 0, [], nS) :: (263, .iload_n 1, [], nS) :: (264, .bipush 59, [], nS) :: (266, .if_icmp .ne 8, [274], nS) :: (269, .bipush 59, [], nS) :: (271, .goto 5, [276], nS) :: L_X6_next_274
def L_X6_next_256 : List Item := (256, .putfield 124, [6, 15, 0], nS) :: (259, .goto 20, [279], nS) :: L_X6_next_262
def L_X6_next_254 : List Item := (254, .bipush 48, [], nS) :: L_X6_next_256
def L_X6_next_235 : List Item := (235, .aload_n 0, [], nS) :: (236, .aload_n 0, [], nS) :: (237, .getfield 118, [6, 14, 0], nS) :: (240, .aload_n 0, [], nS) :: (241, .getfield 121, [6, 13, 0], nS) :: (244, .isub, [], nS) :: (245, .iconst 3, [], nS) :: (246, .if_icmp .le 8, [254], nS) :: (249, .bipush 120, [], nS) :: (251, .goto 5, [256], nS) :: L_X6_next_254
def L_X6_next_222 : List Item := (222, .aload_n 0, [], nS) :: (223, .dup, [], nS) :: (224, .getfield 118, [6, 14, 0], nS) :: (227, .iconst 1, [], nS) :: (228, .iadd, [], nS) :: (229, .putfield 118, [6, 14, 0], nS) :: (232, .goto (-73), [159], nS) :: L_X6_next_235
def L_X6_next_159 : List Item := (159, .aload_n 0, [], nS) :: (160, .getfield 118, [6, 14, 0], nS) :: (163, .aload_n 0, [], nS) :: (164, .getfield 115, [6, 11, 0], nS) :: (167, .if_icmp .ge 68, [235], nS) :: (170, .aload_n 0, [], nS) :: (171, .getfield 37, [6, 12, 1], nS) :: (174, .aload_n 0, [], nS) :: (175, .getfield 118, [6, 14, 0], nS) :: (178, .iaload, [], nS) :: (179, .invokestatic 130, [0, 1, 0, 0], S_X6_isDigit) :: (182, .ifCond .eq 53, [235], nS) :: (185, .aload_n 0, [], nS) :: (186, .getfield 118, [6, 14, 0], nS) :: (189, .aload_n 0, [], nS) :: (190, .getfield 121, [6, 13, 0], nS) :: (193, .isub, [], nS) :: (194, .iconst 3, [], nS) :: (195, .if_icmp .ge 27, [222], nS) :: (198, .aload_n 0, [], nS) :: (199, .bipush 10, [], nS) :: (201, .aload_n 0, [], nS) :: (202, .getfield 133, [6, 16, 0], nS) :: (205, .imul, [], nS) :: (206, .aload_n 0, [], nS) :: (207, .getfield 37, [6, 12, 1], nS) :: (210, .aload_n 0, [], nS) :: (211, .getfield 118, [6, 14, 0], nS) :: (214, .iaload, [], nS) :: (215, .iadd, [], nS) :: (216, .bipush 48, [], nS) :: (218, .isub, [], nS) :: (219, .putfield 133, [6, 16, 0], nS) :: L_X6_next_222
def L_X6_next_144 : List Item := (144, .iload_n 1, [], nS) :: (145, .invokestatic 130, [0, 1, 0, 0], S_X6_isDigit) :: (148, .ifCond .eq 114, [262], nS) :: (151, .aload_n 0, [], nS) :: (152, .iload_n 1, [], nS) :: (153, .bipush 48, [], nS) :: (155, .isub, [], nS) :: (156, .putfield 133, [6, 16, 0], nS) :: (159, .nop, [], nS) :: L_X6_next_159
def L_X6_next_135 : List Item := (135, .aload_n 0, [], nS) :: (136, .bipush 119, [], nS) :: (138, .putfield 124, [6, 15, 0], nS) :: (141, .goto 138, [279], nS) :: L_X6_next_144
def L_X6_next_96 : List Item := (96, .aload_n 0, [], nS) :: (97, .getfield 118, [6, 14, 0], nS) :: (100, .aload_n 0, [], nS) :: (101, .getfield 115, [6, 11, 0], nS) :: (104, .if_icmp .ge 31, [135], nS) :: (107, .aload_n 0, [], nS) :: (108, .getfield 37, [6, 12, 1], nS) :: (111, .aload_n 0, [], nS) :: (112, .getfield 118, [6, 14, 0], nS) :: (115, .iaload, [], nS) :: (116, .invokestatic 127, [0, 1, 0, 0], S_X6_isLetter) :: (119, .ifCond .eq 16, [135], nS) :: (122, .aload_n 0, [], nS) :: (123, .dup, [], nS) :: (124, .getfield 118, [6, 14, 0], nS) :: (127, .iconst 1, [], nS) :: (128, .iadd, [], nS) :: (129, .putfield 118, [6, 14, 0], nS) :: (132, .goto (-36), [96], nS) :: L_X6_next_135
def L_X6_next_72 : List Item := (72, .aload_n 0, [], nS) :: (73, .getfield 37, [6, 12, 1], nS) :: (76, .aload_n 0, [], nS) :: (77, .dup, [], nS) :: (78, .getfield 118, [6, 14, 0], nS) :: (81, .dup_x1, [], nS) :: (82, .iconst 1, [], nS) :: (83, .iadd, [], nS) :: (84, .putfield 118, [6, 14, 0], nS) :: (87, .iaload, [], nS) :: (88, .istore_n 1, [], nS) :: (89, .iload_n 1, [], nS) :: (90, .invokestatic 127, [0, 1, 0, 0], S_X6_isLetter) :: (93, .ifCond .eq 51, [144], nS) :: (96, .nop, [], nS) :: L_X6_next_96
def L_X6_next_46 : List Item := (46, .aload_n 0, [], nS) :: (47, .aload_n 0, [], nS) :: (48, .getfield 121, [6, 13, 0], nS) :: (51, .putfield 118, [6, 14, 0], nS) :: (54, .aload_n 0, [], nS) :: (55, .getfield 121, [6, 13, 0], nS) :: (58, .aload_n 0, [], nS) :: (59, .getfield 115, [6, 11, 0], nS) :: (62, .if_icmp .ne 10, [72], nS) :: (65, .aload_n 0, [], nS) :: (66, .bipush 101, [], nS) :: (68, .putfield 124, [6, 15, 0], nS) :: (71, .return_, [], nS) :: L_X6_next_72
def L_X6_next_8 : List Item := (8, .aload_n 0, [], nS) :: (9, .getfield 121, [6, 13, 0], nS) :: (12, .aload_n 0, [], nS) :: (13, .getfield 115, [6, 11, 0], nS) :: (16, .if_icmp .ge 30, [46], nS) :: (19, .aload_n 0, [], nS) :: (20, .getfield 37, [6, 12, 1], nS) :: (23, .aload_n 0, [], nS) :: (24, .getfield 121, [6, 13, 0], nS) :: (27, .iaload, [], nS) :: (28, .bipush 32, [], nS) :: (30, .if_icmp .ne 16, [46], nS) :: (33, .aload_n 0, [], nS) :: (34, .dup, [], nS) :: (35, .getfield 121, [6, 13, 0], nS) :: (38, .iconst 1, [], nS) :: (39, .iadd, [], nS) :: (40, .putfield 121, [6, 13, 0], nS) :: (43, .goto (-35), [8], nS) :: L_X6_next_46
def L_X6_next_0 : List Item := (0, .aload_n 0, [], nS) :: (1, .aload_n 0, [], nS) :: (2, .getfield 118, [6, 14, 0], nS) :: (5, .putfield 121, [6, 13, 0], nS) :: (8, .nop, [], nS) :: L_X6_next_8
def L_X6_next : List Item := L_X6_next_0
theorem ok_X6_next : okB cX6_next L_X6_next = true := by decide +kernel
theorem lk_X6_next (l : Launch) : LKs l RX6 2 false L_X6_next := ⟨trivial, trivial, ⟨_, _, _, rfl, ⟨(RX6, TX6, 26), rfl, by decide, gT_of (List.mem_of_getElem? (i := 932) (by decide +kernel)) rfl⟩, rfl⟩, ⟨_, _, _, rfl, ⟨(RX6, TX6, 26), rfl, by decide, gT_of (List.mem_of_getElem? (i := 931) (by decide +kernel)) rfl⟩, rfl, fun q => absurd rfl q⟩, trivial, trivial, ⟨_, _, _, rfl, ⟨(RX6, TX6, 26), rfl, by decide, gT_of (List.mem_of_getElem? (i := 931) (by decide +kernel)) rfl⟩, rfl⟩, trivial, ⟨_, _, _, rfl, ⟨(RX6, TX6, 26), rfl, by decide, gT_of (List.mem_of_getElem? (i := 929) (by decide +kernel)) rfl⟩, rfl⟩, trivial, trivial, ⟨_, _, _, rfl, ⟨(RX6, TX6, 26), rfl, by decide, gT_of (List.mem_of_getElem? (i := 930) (by decide +kernel)) rfl⟩, rfl⟩, trivial, ⟨_, _, _, rfl, ⟨(RX6, TX6, 26), rfl, by decide, gT_of (List.mem_of_getElem? (i := 931) (by decide +kernel)) rfl⟩, rfl⟩, trivial, trivial, trivial, trivial, trivial, ⟨_, _, _, rfl, ⟨(RX6, TX6, 26), rfl, by decide, gT_of (List.mem_of_getElem? (i := 931) (by decide +kernel)) rfl⟩, rfl⟩, trivial, trivial, ⟨_, _, _, rfl, ⟨(RX6, TX6, 26), rfl, by decide, gT_of (List.mem_of_getElem? (i := 931) (by decide +kernel)) rfl⟩, rfl, fun q => absurd rfl q⟩, trivial, trivial, trivial, ⟨_, _, _, rfl, ⟨(RX6, TX6, 26), rfl, by decide, gT_of (List.mem_of_getElem? (i := 931) (by decide +kernel)) rfl⟩, rfl⟩, ⟨_, _, _, rfl, ⟨(RX6, TX6, 26), rfl, by decide, gT_of (List.mem_of_getElem? (i := 932) (by decide +kernel)) rfl⟩, rfl, fun q => absurd rfl q⟩, trivial, ⟨_, _, _, rfl, ⟨(RX6, TX6, 26), rfl, by decide, gT_of (List.mem_of_getElem? (i := 931) (by decide +kernel)) rfl⟩, rfl⟩, trivial, ⟨_, _, _, rfl, ⟨(RX6, TX6, 26), rfl, by decide, gT_of (List.mem_of_getElem? (i := 929) (by decide +kernel)) rfl⟩, rfl⟩, trivial, trivial, trivial, ⟨_, _, _, rfl, ⟨(RX6, TX6, 26), rfl, by decide, gT_of (List.mem_of_getElem? (i := 933) (by decide +kernel)) rfl⟩, rfl, fun q => absurd rfl q⟩, trivial, trivial, ⟨_, _, _, rfl, ⟨(RX6, TX6, 26), rfl, by decide, gT_of (List.mem_of_getElem? (i := 930) (by decide +kernel)) rfl⟩, rfl⟩, trivial, trivial, ⟨_, _, _, rfl, ⟨(RX6, TX6, 26), rfl, by decide, gT_of (List.mem_of_getElem? (i := 932) (by decide +kernel)) rfl⟩, rfl⟩, trivial, trivial, trivial, ⟨_, _, _, rfl, ⟨(RX6, TX6, 26), rfl, by decide, gT_of (List.mem_of_getElem? (i := 932) (by decide +kernel)) rfl⟩, rfl, fun q => absurd rfl q⟩, trivial, trivial, trivial, Or.inl ⟨_, _, _, _, _, _, _, _, rfl, c_X6_isLetter l, yv_X6_isLetter, by decide, gT_of (List.mem_of_getElem? (i := 1106) (by decide +kernel)) rfl⟩, trivial, trivial, trivial, ⟨_, _, _, rfl, ⟨(RX6, TX6, 26), rfl, by decide, gT_of (List.mem_of_getElem? (i := 932) (by decide +kernel)) rfl⟩, rfl⟩, trivial, ⟨_, _, _, rfl, ⟨(RX6, TX6, 26), rfl, by decide, gT_of (List.mem_of_getElem? (i := 929) (by decide +kernel)) rfl⟩, rfl⟩, trivial, trivial, ⟨_, _, _, rfl, ⟨(RX6, TX6, 26), rfl, by decide, gT_of (List.mem_of_getElem? (i := 930) (by decide +kernel)) rfl⟩, rfl⟩, trivial, ⟨_, _, _, rfl, ⟨(RX6, TX6, 26), rfl, by decide, gT_of (List.mem_of_getElem? (i := 932) (by decide +kernel)) rfl⟩, rfl⟩, trivial, Or.inl ⟨_, _, _, _, _, _, _, _, rfl, c_X6_isLetter l, yv_X6_isLetter, by decide, gT_of (List.mem_of_getElem? (i := 1106) (by decide +kernel)) rfl⟩, trivial, trivial, trivial, ⟨_, _, _, rfl, ⟨(RX6, TX6, 26), rfl, by decide, gT_of (List.mem_of_getElem? (i := 932) (by decide +kernel)) rfl⟩, rfl⟩, trivial, trivial, ⟨_, _, _, rfl, ⟨(RX6, TX6, 26), rfl, by decide, gT_of (List.mem_of_getElem? (i := 932) (by decide +kernel)) rfl⟩, rfl, fun q => absurd rfl q⟩, trivial, trivial, trivial, ⟨_, _, _, rfl, ⟨(RX6, TX6, 26), rfl, by decide, gT_of (List.mem_of_getElem? (i := 933) (by decide +kernel)) rfl⟩, rfl, fun q => absurd rfl q⟩, trivial, trivial, Or.inl ⟨_, _, _, _, _, _, _, _, rfl, c_X6_isDigit l, yv_X6_isDigit, by decide, gT_of (List.mem_of_getElem? (i := 1109) (by decide +kernel)) rfl⟩, trivial, trivial, trivial, trivial, trivial, ⟨_, _, _, rfl, ⟨(RX6, TX6, 26), rfl, by decide, gT_of (List.mem_of_getElem? (i := 934) (by decide +kernel)) rfl⟩, rfl, fun q => absurd rfl q⟩, trivial, trivial, ⟨_, _, _, rfl, ⟨(RX6, TX6, 26), rfl, by decide, gT_of (List.mem_of_getElem? (i := 932) (by decide +kernel)) rfl⟩, rfl⟩, trivial, ⟨_, _, _, rfl, ⟨(RX6, TX6, 26), rfl, by decide, gT_of (List.mem_of_getElem? (i := 929) (by decide +kernel)) rfl⟩, rfl⟩, trivial, trivial, ⟨_, _, _, rfl, ⟨(RX6, TX6, 26), rfl, by decide, gT_of (List.mem_of_getElem? (i := 930) (by decide +kernel)) rfl⟩, rfl⟩, trivial, ⟨_, _, _, rfl, ⟨(RX6, TX6, 26), rfl, by decide, gT_of (List.mem_of_getElem? (i := 932) (by decide +kernel)) rfl⟩, rfl⟩, trivial, Or.inl ⟨_, _, _, _, _, _, _, _, rfl, c_X6_isDigit l, yv_X6_isDigit, by decide, gT_of (List.mem_of_getElem? (i := 1109) (by decide +kernel)) rfl⟩, trivial, trivial, ⟨_, _, _, rfl, ⟨(RX6, TX6, 26), rfl, by decide, gT_of (List.mem_of_getElem? (i := 932) (by decide +kernel)) rfl⟩, rfl⟩, trivial, ⟨_, _, _, rfl, ⟨(RX6, TX6, 26), rfl, by decide, gT_of (List.mem_of_getElem? (i := 931) (by decide +kernel)) rfl⟩, rfl⟩, trivial, trivial, trivial, trivial, trivial, trivial, ⟨_, _, _, rfl, ⟨(RX6, TX6, 26), rfl, by decide, gT_of (List.mem_of_getElem? (i := 934) (by decide +kernel)) rfl⟩, rfl⟩, trivial, trivial, ⟨_, _, _, rfl, ⟨(RX6, TX6, 26), rfl, by decide, gT_of (List.mem_of_getElem? (i := 930) (by decide +kernel)) rfl⟩, rfl⟩, trivial, ⟨_, _, _, rfl, ⟨(RX6, TX6, 26), rfl, by decide, gT_of (List.mem_of_getElem? (i := 932) (by decide +kernel)) rfl⟩, rfl⟩, trivial, trivial, trivial, trivial, ⟨_, _, _, rfl, ⟨(RX6, TX6, 26), rfl, by decide, gT_of (List.mem_of_getElem? (i := 934) (by decide +kernel)) rfl⟩, rfl, fun q => absurd rfl q⟩, trivial, trivial, ⟨_, _, _, rfl, ⟨(RX6, TX6, 26), rfl, by decide, gT_of (List.mem_of_getElem? (i := 932) (by decide +kernel)) rfl⟩, rfl⟩, trivial, trivial, ⟨_, _, _, rfl, ⟨(RX6, TX6, 26), rfl, by decide, gT_of (List.mem_of_getElem? (i := 932) (by decide +kernel)) rfl⟩, rfl, fun q => absurd rfl q⟩, trivial, trivial, trivial, ⟨_, _, _, rfl, ⟨(RX6, TX6, 26), rfl, by decide, gT_of (List.mem_of_getElem? (i := 932) (by decide +kernel)) rfl⟩, rfl⟩, trivial, ⟨_, _, _, rfl, ⟨(RX6, TX6, 26), rfl, by decide, gT_of (List.mem_of_getElem? (i := 931) (by decide +kernel)) rfl⟩, rfl⟩, trivial, trivial, trivial, trivial, trivial, trivial, ⟨_, _, _, rfl, ⟨(RX6, TX6, 26), rfl, by decide, gT_of (List.mem_of_getElem? (i := 933) (by decide +kernel)) rfl⟩, rfl, fun q => absurd rfl q⟩, trivial, trivial, trivial, trivial, trivial, trivial, trivial, trivial, ⟨_, _, _, rfl, ⟨(RX6, TX6, 26), rfl, by decide, gT_of (List.mem_of_getElem? (i := 933) (by decide +kernel)) rfl⟩, rfl, fun q => absurd rfl q⟩, trivial, trivial⟩
theorem b_X6_next_0 : atL L_X6_next 0 = L_X6_next_0 := rfl
theorem b_X6_next_8 : atL L_X6_next 8 = L_X6_next_8 := rfl
theorem b_X6_next_46 : atL L_X6_next 46 = L_X6_next_46 := rfl
theorem b_X6_next_72 : atL L_X6_next 72 = L_X6_next_72 := rfl
theorem b_X6_next_96 : atL L_X6_next 96 = L_X6_next_96 := rfl
set_option maxRecDepth 100000 in
theorem b_X6_next_135 : atL L_X6_next 135 = L_X6_next_135 := rfl
set_option maxRecDepth 100000 in
theorem b_X6_next_144 : atL L_X6_next 144 = L_X6_next_144 := rfl
set_option maxRecDepth 100000 in
theorem b_X6_next_159 : atL L_X6_next 159 = L_X6_next_159 := rfl
set_option maxRecDepth 100000 in
theorem b_X6_next_222 : atL L_X6_next 222 = L_X6_next_222 := rfl
set_option maxRecDepth 100000 in
theorem b_X6_next_235 : atL L_X6_next 235 = L_X6_next_235 := rfl
set_option maxRecDepth 100000 in
theorem b_X6_next_254 : atL L_X6_next 254 = L_X6_next_254 := rfl
set_option maxRecDepth 100000 in
theorem b_X6_next_256 : atL L_X6_next 256 = L_X6_next_256 := rfl
set_option maxRecDepth 100000 in
theorem b_X6_next_262 : atL L_X6_next 262 = L_X6_next_262 := rfl
set_option maxRecDepth 100000 in
theorem b_X6_next_274 : atL L_X6_next 274 = L_X6_next_274 := rfl
set_option maxRecDepth 100000 in
theorem b_X6_next_276 : atL L_X6_next 276 = L_X6_next_276 := rfl
set_option maxRecDepth 100000 in
theorem b_X6_next_279 : atL L_X6_next 279 = L_X6_next_279 := rfl
theorem a_X6_next_46 : afw L_X6_next [8, 96, 159] 46 = L_X6_next_46 := rfl
theorem a_X6_next_72 : afw L_X6_next [8, 96, 159] 72 = L_X6_next_72 := rfl
set_option maxRecDepth 100000 in
theorem a_X6_next_135 : afw L_X6_next [8, 96, 159] 135 = L_X6_next_135 := rfl
set_option maxRecDepth 100000 in
theorem a_X6_next_144 : afw L_X6_next [8, 96, 159] 144 = L_X6_next_144 := rfl
set_option maxRecDepth 100000 in
theorem a_X6_next_222 : afw L_X6_next [8, 96, 159] 222 = L_X6_next_222 := rfl
set_option maxRecDepth 100000 in
theorem a_X6_next_235 : afw L_X6_next [8, 96, 159] 235 = L_X6_next_235 := rfl
set_option maxRecDepth 100000 in
theorem a_X6_next_254 : afw L_X6_next [8, 96, 159] 254 = L_X6_next_254 := rfl
set_option maxRecDepth 100000 in
theorem a_X6_next_256 : afw L_X6_next [8, 96, 159] 256 = L_X6_next_256 := rfl
set_option maxRecDepth 100000 in
theorem a_X6_next_262 : afw L_X6_next [8, 96, 159] 262 = L_X6_next_262 := rfl
set_option maxRecDepth 100000 in
theorem a_X6_next_274 : afw L_X6_next [8, 96, 159] 274 = L_X6_next_274 := rfl
set_option maxRecDepth 100000 in
theorem a_X6_next_276 : afw L_X6_next [8, 96, 159] 276 = L_X6_next_276 := rfl
set_option maxRecDepth 100000 in
theorem a_X6_next_279 : afw L_X6_next [8, 96, 159] 279 = L_X6_next_279 := rfl
theorem a_X6_next_8 : afw L_X6_next [8, 96, 159] 8 = [] := rfl
theorem a_X6_next_96 : afw L_X6_next [8, 96, 159] 96 = [] := rfl
set_option maxRecDepth 100000 in
theorem a_X6_next_159 : afw L_X6_next [8, 96, 159] 159 = [] := rfl
theorem yv_X6_next : YV yX6_next cX6_next 2 none 0 6 := ⟨⟨gT_of (List.mem_of_getElem? (i := 1105) (by decide +kernel)) rfl, gT_of (List.mem_of_getElem? (i := 74) (by decide +kernel)) rfl, ⟨by decide, by decide⟩, by decide +kernel, by decide⟩, gT_of (List.mem_of_getElem? (i := 1104) (by decide +kernel)) rfl, gT_of (List.mem_of_getElem? (i := 34) (by decide +kernel)) rfl, rfl⟩
theorem u_X6_next_0 : L_X6_next_0 = (0, .aload_n 0, [], nS) :: (1, .aload_n 0, [], nS) :: (2, .getfield 118, [6, 14, 0], nS) :: (5, .putfield 121, [6, 13, 0], nS) :: (8, .nop, [], nS) :: L_X6_next_8 := nr rfl
theorem u_X6_next_8 : L_X6_next_8 = (8, .aload_n 0, [], nS) :: (9, .getfield 121, [6, 13, 0], nS) :: (12, .aload_n 0, [], nS) :: (13, .getfield 115, [6, 11, 0], nS) :: (16, .if_icmp .ge 30, [46], nS) :: (19, .aload_n 0, [], nS) :: (20, .getfield 37, [6, 12, 1], nS) :: (23, .aload_n 0, [], nS) :: (24, .getfield 121, [6, 13, 0], nS) :: (27, .iaload, [], nS) :: (28, .bipush 32, [], nS) :: (30, .if_icmp .ne 16, [46], nS) :: (33, .aload_n 0, [], nS) :: (34, .dup, [], nS) :: (35, .getfield 121, [6, 13, 0], nS) :: (38, .iconst 1, [], nS) :: (39, .iadd, [], nS) :: (40, .putfield 121, [6, 13, 0], nS) :: (43, .goto (-35), [8], nS) :: L_X6_next_46 := nr rfl
theorem u_X6_next_46 : L_X6_next_46 = (46, .aload_n 0, [], nS) :: (47, .aload_n 0, [], nS) :: (48, .getfield 121, [6, 13, 0], nS) :: (51, .putfield 118, [6, 14, 0], nS) :: (54, .aload_n 0, [], nS) :: (55, .getfield 121, [6, 13, 0], nS) :: (58, .aload_n 0, [], nS) :: (59, .getfield 115, [6, 11, 0], nS) :: (62, .if_icmp .ne 10, [72], nS) :: (65, .aload_n 0, [], nS) :: (66, .bipush 101, [], nS) :: (68, .putfield 124, [6, 15, 0], nS) :: (71, .return_, [], nS) :: L_X6_next_72 := nr rfl
theorem u_X6_next_72 : L_X6_next_72 = (72, .aload_n 0, [], nS) :: (73, .getfield 37, [6, 12, 1], nS) :: (76, .aload_n 0, [], nS) :: (77, .dup, [], nS) :: (78, .getfield 118, [6, 14, 0], nS) :: (81, .dup_x1, [], nS) :: (82, .iconst 1, [], nS) :: (83, .iadd, [], nS) :: (84, .putfield 118, [6, 14, 0], nS) :: (87, .iaload, [], nS) :: (88, .istore_n 1, [], nS) :: (89, .iload_n 1, [], nS) :: (90, .invokestatic 127, [0, 1, 0, 0], S_X6_isLetter) :: (93, .ifCond .eq 51, [144], nS) :: (96, .nop, [], nS) :: L_X6_next_96 := nr rfl
theorem u_X6_next_96 : L_X6_next_96 = (96, .aload_n 0, [], nS) :: (97, .getfield 118, [6, 14, 0], nS) :: (100, .aload_n 0, [], nS) :: (101, .getfield 115, [6, 11, 0], nS) :: (104, .if_icmp .ge 31, [135], nS) :: (107, .aload_n 0, [], nS) :: (108, .getfield 37, [6, 12, 1], nS) :: (111, .aload_n 0, [], nS) :: (112, .getfield 118, [6, 14, 0], nS) :: (115, .iaload, [], nS) :: (116, .invokestatic 127, [0, 1, 0, 0], S_X6_isLetter) :: (119, .ifCond .eq 16, [135], nS) :: (122, .aload_n 0, [], nS) :: (123, .dup, [], nS) :: (124, .getfield 118, [6, 14, 0], nS) :: (127, .iconst 1, [], nS) :: (128, .iadd, [], nS) :: (129, .putfield 118, [6, 14, 0], nS) :: (132, .goto (-36), [96], nS) :: L_X6_next_135 := nr rfl
theorem u_X6_next_135 : L_X6_next_135 = (135, .aload_n 0, [], nS) :: (136, .bipush 119, [], nS) :: (138, .putfield 124, [6, 15, 0], nS) :: (141, .goto 138, [279], nS) :: L_X6_next_144 := nr rfl
theorem u_X6_next_144 : L_X6_next_144 = (144, .iload_n 1, [], nS) :: (145, .invokestatic 130, [0, 1, 0, 0], S_X6_isDigit) :: (148, .ifCond .eq 114, [262], nS) :: (151, .aload_n 0, [], nS) :: (152, .iload_n 1, [], nS) :: (153, .bipush 48, [], nS) :: (155, .isub, [], nS) :: (156, .putfield 133, [6, 16, 0], nS) :: (159, .nop, [], nS) :: L_X6_next_159 := nr rfl
theorem u_X6_next_159 : L_X6_next_159 = (159, .aload_n 0, [], nS) :: (160, .getfield 118, [6, 14, 0], nS) :: (163, .aload_n 0, [], nS) :: (164, .getfield 115, [6, 11, 0], nS) :: (167, .if_icmp .ge 68, [235], nS) :: (170, .aload_n 0, [], nS) :: (171, .getfield 37, [6, 12, 1], nS) :: (174, .aload_n 0, [], nS) :: (175, .getfield 118, [6, 14, 0], nS) :: (178, .iaload, [], nS) :: (179, .invokestatic 130, [0, 1, 0, 0], S_X6_isDigit) :: (182, .ifCond .eq 53, [235], nS) :: (185, .aload_n 0, [], nS) :: (186, .getfield 118, [6, 14, 0], nS) :: (189, .aload_n 0, [], nS) :: (190, .getfield 121, [6, 13, 0], nS) :: (193, .isub, [], nS) :: (194, .iconst 3, [], nS) :: (195, .if_icmp .ge 27, [222], nS) :: (198, .aload_n 0, [], nS) :: (199, .bipush 10, [], nS) :: (201, .aload_n 0, [], nS) :: (202, .getfield 133, [6, 16, 0], nS) :: (205, .imul, [], nS) :: (206, .aload_n 0, [], nS) :: (207, .getfield 37, [6, 12, 1], nS) :: (210, .aload_n 0, [], nS) :: (211, .getfield 118, [6, 14, 0], nS) :: (214, .iaload, [], nS) :: (215, .iadd, [], nS) :: (216, .bipush 48, [], nS) :: (218, .isub, [], nS) :: (219, .putfield 133, [6, 16, 0], nS) :: L_X6_next_222 := nr rfl
theorem u_X6_next_222 : L_X6_next_222 = (222, .aload_n 0, [], nS) :: (223, .dup, [], nS) :: (224, .getfield 118, [6, 14, 0], nS) :: (227, .iconst 1, [], nS) :: (228, .iadd, [], nS) :: (229, .putfield 118, [6, 14, 0], nS) :: (232, .goto (-73), [159], nS) :: L_X6_next_235 := nr rfl
theorem u_X6_next_235 : L_X6_next_235 = (235, .aload_n 0, [], nS) :: (236, .aload_n 0, [], nS) :: (237, .getfield 118, [6, 14, 0], nS) :: (240, .aload_n 0, [], nS) :: (241, .getfield 121, [6, 13, 0], nS) :: (244, .isub, [], nS) :: (245, .iconst 3, [], nS) :: (246, .if_icmp .le 8, [254], nS) :: (249, .bipush 120, [], nS) :: (251, .goto 5, [256], nS) :: L_X6_next_254 := nr rfl
theorem u_X6_next_254 : L_X6_next_254 = (254, .bipush 48, [], nS) :: L_X6_next_256 := nr rfl
theorem u_X6_next_256 : L_X6_next_256 = (256, .putfield 124, [6, 15, 0], nS) :: (259, .goto 20, [279], nS) :: L_X6_next_262 := nr rfl
theorem u_X6_next_262 : L_X6_next_262 = (262, .aload_n 0, [], nS) :: (263, .iload_n 1, [], nS) :: (264, .bipush 59, [], nS) :: (266, .if_icmp .ne 8, [274], nS) :: (269, .bipush 59, [], nS) :: (271, .goto 5, [276], nS) :: L_X6_next_274 := nr rfl
theorem u_X6_next_274 : L_X6_next_274 = (274, .bipush 120, [], nS) :: L_X6_next_276 := nr rfl
theorem u_X6_next_276 : L_X6_next_276 = (276, .putfield 124, [6, 15, 0], nS) :: L_X6_next_279 := nr rfl
theorem u_X6_next_279 : L_X6_next_279 = (279, .return_, [], nS) :: [] := nr rfl
theorem z_X6_next_0 : atL L_X6_next 0 = L_X6_next_0 := nr rfl
theorem z_X6_next_8 : atL L_X6_next 8 = L_X6_next_8 := nr rfl
theorem z_X6_next_46 : atL L_X6_next 46 = L_X6_next_46 := nr rfl
theorem z_X6_next_72 : atL L_X6_next 72 = L_X6_next_72 := nr rfl
theorem z_X6_next_96 : atL L_X6_next 96 = L_X6_next_96 := nr rfl
theorem z_X6_next_135 : atL L_X6_next 135 = L_X6_next_135 := nr rfl
theorem z_X6_next_144 : atL L_X6_next 144 = L_X6_next_144 := nr rfl
theorem z_X6_next_159 : atL L_X6_next 159 = L_X6_next_159 := nr rfl
theorem z_X6_next_222 : atL L_X6_next 222 = L_X6_next_222 := nr rfl
theorem z_X6_next_235 : atL L_X6_next 235 = L_X6_next_235 := nr rfl
theorem z_X6_next_254 : atL L_X6_next 254 = L_X6_next_254 := nr rfl
theorem z_X6_next_256 : atL L_X6_next 256 = L_X6_next_256 := nr rfl
theorem z_X6_next_262 : atL L_X6_next 262 = L_X6_next_262 := nr rfl
theorem z_X6_next_274 : atL L_X6_next 274 = L_X6_next_274 := nr rfl
theorem z_X6_next_276 : atL L_X6_next 276 = L_X6_next_276 := nr rfl
theorem z_X6_next_279 : atL L_X6_next 279 = L_X6_next_279 := nr rfl
theorem j_X6_next_46 {G : List Item → SpS → List Value → List Value → AH → Prop} {J : Nat → SpS → List Value → List Value → AH → Prop} {S : SpS} {lv st : List Value} {h : AH} : jmp G J (afw L_X6_next [8, 96, 159] 46) 46 S lv st h = G L_X6_next_46 S lv st h := nr rfl
theorem j_X6_next_72 {G : List Item → SpS → List Value → List Value → AH → Prop} {J : Nat → SpS → List Value → List Value → AH → Prop} {S : SpS} {lv st : List Value} {h : AH} : jmp G J (afw L_X6_next [8, 96, 159] 72) 72 S lv st h = G L_X6_next_72 S lv st h := nr rfl
theorem j_X6_next_135 {G : List Item → SpS → List Value → List Value → AH → Prop} {J : Nat → SpS → List Value → List Value → AH → Prop} {S : SpS} {lv st : List Value} {h : AH} : jmp G J (afw L_X6_next [8, 96, 159] 135) 135 S lv st h = G L_X6_next_135 S lv st h := nr rfl
theorem j_X6_next_144 {G : List Item → SpS → List Value → List Value → AH → Prop} {J : Nat → SpS → List Value → List Value → AH → Prop} {S : SpS} {lv st : List Value} {h : AH} : jmp G J (afw L_X6_next [8, 96, 159] 144) 144 S lv st h = G L_X6_next_144 S lv st h := nr rfl
theorem j_X6_next_222 {G : List Item → SpS → List Value → List Value → AH → Prop} {J : Nat → SpS → List Value → List Value → AH → Prop} {S : SpS} {lv st : List Value} {h : AH} : jmp G J (afw L_X6_next [8, 96, 159] 222) 222 S lv st h = G L_X6_next_222 S lv st h := nr rfl
theorem j_X6_next_235 {G : List Item → SpS → List Value → List Value → AH → Prop} {J : Nat → SpS → List Value → List Value → AH → Prop} {S : SpS} {lv st : List Value} {h : AH} : jmp G J (afw L_X6_next [8, 96, 159] 235) 235 S lv st h = G L_X6_next_235 S lv st h := nr rfl
theorem j_X6_next_254 {G : List Item → SpS → List Value → List Value → AH → Prop} {J : Nat → SpS → List Value → List Value → AH → Prop} {S : SpS} {lv st : List Value} {h : AH} : jmp G J (afw L_X6_next [8, 96, 159] 254) 254 S lv st h = G L_X6_next_254 S lv st h := nr rfl
theorem j_X6_next_256 {G : List Item → SpS → List Value → List Value → AH → Prop} {J : Nat → SpS → List Value → List Value → AH → Prop} {S : SpS} {lv st : List Value} {h : AH} : jmp G J (afw L_X6_next [8, 96, 159] 256) 256 S lv st h = G L_X6_next_256 S lv st h := nr rfl
theorem j_X6_next_262 {G : List Item → SpS → List Value → List Value → AH → Prop} {J : Nat → SpS → List Value → List Value → AH → Prop} {S : SpS} {lv st : List Value} {h : AH} : jmp G J (afw L_X6_next [8, 96, 159] 262) 262 S lv st h = G L_X6_next_262 S lv st h := nr rfl
theorem j_X6_next_274 {G : List Item → SpS → List Value → List Value → AH → Prop} {J : Nat → SpS → List Value → List Value → AH → Prop} {S : SpS} {lv st : List Value} {h : AH} : jmp G J (afw L_X6_next [8, 96, 159] 274) 274 S lv st h = G L_X6_next_274 S lv st h := nr rfl
theorem j_X6_next_276 {G : List Item → SpS → List Value → List Value → AH → Prop} {J : Nat → SpS → List Value → List Value → AH → Prop} {S : SpS} {lv st : List Value} {h : AH} : jmp G J (afw L_X6_next [8, 96, 159] 276) 276 S lv st h = G L_X6_next_276 S lv st h := nr rfl
theorem j_X6_next_279 {G : List Item → SpS → List Value → List Value → AH → Prop} {J : Nat → SpS → List Value → List Value → AH → Prop} {S : SpS} {lv st : List Value} {h : AH} : jmp G J (afw L_X6_next [8, 96, 159] 279) 279 S lv st h = G L_X6_next_279 S lv st h := nr rfl
theorem j_X6_next_8 {G : List Item → SpS → List Value → List Value → AH → Prop} {J : Nat → SpS → List Value → List Value → AH → Prop} {S : SpS} {lv st : List Value} {h : AH} : jmp G J (afw L_X6_next [8, 96, 159] 8) 8 S lv st h = J 8 S lv st h := nr rfl
theorem j_X6_next_96 {G : List Item → SpS → List Value → List Value → AH → Prop} {J : Nat → SpS → List Value → List Value → AH → Prop} {S : SpS} {lv st : List Value} {h : AH} : jmp G J (afw L_X6_next [8, 96, 159] 96) 96 S lv st h = J 96 S lv st h := nr rfl
theorem j_X6_next_159 {G : List Item → SpS → List Value → List Value → AH → Prop} {J : Nat → SpS → List Value → List Value → AH → Prop} {S : SpS} {lv st : List Value} {h : AH} : jmp G J (afw L_X6_next [8, 96, 159] 159) 159 S lv st h = J 159 S lv st h := nr rfl
theorem e_X6_next {x : Addr} {h : AH} {K2 : Option Value → SpS → AH → Prop} : S_X6_next SH0 [.ref x] h K2 = (fun (K : Option Value → AH → Prop) => x = 64 ∧ ∃ n e : Nat, n ≤ 250 ∧ e ≤ n ∧ gI h 64 11 = nI n ∧ gI h 64 14 = nI e ∧ ∀ h', tokM h' (gI h 74) (nextB (gI h 74) n e) → frR h h' → K none h') (fun v h' => K2 v SH0 h') := (lift_e P_X6_next [.ref x] h K2).trans (nr rfl)
set_option maxRecDepth 100000 in
set_option maxHeartbeats 4000000 in
theorem c_X6_next (l : Launch) : Ct l yX6_next cX6_next 2 none 2 0 0 S_X6_next := by
  refine Ct0_mk L_X6_next [8, 96, 159] (by decide +kernel) (by decide) ok_X6_next (lk_X6_next l) ?_
  intro as h K hP
  match as, hP with
  | [.ref x], ⟨hx, n, e, hn, he, g1, g2, hK⟩ =>
  refine ⟨by simp [slotsN, Value.category], fun J hJ => ?_⟩
  subst hx
  generalize hB : gI h 74 = B at *
  have word : ∀ s R c, (∀ h', tokM h' B (s, R, 0) → frR h h' → K none SH0 h') → ∀ r i h2, i + r = n → runB B 0 r i = R → gI h2 64 13 = nI s → gI h2 64 14 = nI i → frR h h2 → J 96 SH0 [.ref 64, .int c] [] h2 := by
    intro s R c hK2 r
    induction r with
    | zero =>
      intro i h2 hi hr c2 c3 hf
      have b1 : gI h2 64 11 = nI n := (frR_S hf).trans g1
      obtain rfl : i = n := by omega
      refine hJ 96 _ _ _ _ ?_
      simp only [z_X6_next_96, u_X6_next_0, u_X6_next_8, u_X6_next_46, u_X6_next_72, u_X6_next_96, u_X6_next_135, u_X6_next_144, u_X6_next_159, u_X6_next_222, u_X6_next_235, u_X6_next_254, u_X6_next_256, u_X6_next_262, u_X6_next_274, u_X6_next_276, u_X6_next_279, j_X6_next_8, j_X6_next_46, j_X6_next_72, j_X6_next_96, j_X6_next_135, j_X6_next_144, j_X6_next_159, j_X6_next_222, j_X6_next_235, j_X6_next_254, j_X6_next_256, j_X6_next_262, j_X6_next_274, j_X6_next_276, j_X6_next_279, ev_aload_n0, ev_getfI, ev_putfI, ev_nop, ev_ic_ge, ev_getfR, ev_iaload, ev_bipush, ev_ic_ne, ev_dup_int, ev_dup_ref, ev_iconst, ev_iadd, ev_goto, ev_vret, ev_dup_x1_int_int, ev_dup_x1_int_ref, ev_dup_x1_ref_int, ev_dup_x1_ref_ref, ev_istore_n1, ev_iload_n1, ev_callS1, ev_if_eq, ev_isub, ev_imul, ev_ic_le, ↓e_X6_isDigit, ↓e_X6_isLetter, vq3_0, vq3_1, vq3_2, cq_0, cq_1, cq_2, capO_z, kb_6, kb_7, kb_8, kb_9, kb_10, kb_12, kb_16, kb_20, kb_21, kb_30, kb_32, kb_40, kb_48, kb_50, kb_57, kb_59, kb_60, kb_63, kb_70, kb_78, kb_81, kb_82, kb_84, kb_97, kb_99, kb_100, kb_101, kb_119, kb_120, kb_122, ki_m1, ki_0, ki_1, ki_2, ki_3, ki_4, ki_5, ki_6, ki_7, ki_8, ki_9, ki_10, ki_11, ki_12, ki_13, ki_14, ki_15, ki_16, ki_17, ki_18, ki_19, ki_20, ki_21, ki_22, ki_23, ki_24, ki_25, ki_26, ki_27, ki_28, ki_29, ki_30, ki_31, ki_32, ki_33, ki_34, ki_35, ki_36, ki_37, ki_38, ki_39, ki_40, ki_41, ki_42, ki_43, ki_44, ki_45, ki_46, ki_47, ki_48, ki_49, ki_50, ki_51, ki_52, ki_53, ki_54, ki_55, ki_56, ki_57, ki_58, ki_59, ki_60, ki_61, ki_62, ki_63, ks_m2000, ks_m1006, ks_m1005, ks_m1004, ks_m1003, ks_m1002, ks_m1000, ks_200, ks_250, ks_255, ks_256, ks_320, ks_660, ks_999, ks_1000, ks_9999, ks_12345, ne_2, ne_10, t_0, t_40, t_41, t_42, t_43, t_44, t_45, t_46, t_47, t_64, t_65, t_66, t_67, t_68, t_69, t_70, t_71, t_72, t_73, t_74, t_75, t_76, t_77, t_78, t_79, t_80, t_81, t_82, r_0_0, r_0_1, r_0_2, r_0_4, r_0_5, r_0_6, r_0_7, r_40_0, r_40_5, r_44_0, r_44_1, r_64_0, r_64_1, r_64_3, r_64_4, r_64_5, r_64_6, r_64_7, r_64_8, r_64_9, r_64_12, r_64_17, r_64_18, r_64_19, r_64_20, r_64_22, r_64_23, r_64_24, r_64_25, t_1, t_14, t_27, t_2, t_15, t_28, Nat.reduceEqDiff, ne_eq, not_false_eq_true, false_implies, true_implies, implies_true, Nat.reduceAdd, Nat.reduceLeDiff, Nat.reduceLT, Nat.reduceMul, or_true, true_or, if_true, if_false, not_true_eq_false, and_self, bF, Nat.reduceBEq, Bool.false_and, Bool.and_false, Bool.or_self, Bool.or_false, Bool.false_or, Bool.false_eq_true, Int.reduceAdd, Bool.and_self, Bool.true_and, Bool.and_true, beq_self_eq_true, not_not_, i10_, i01_, List.length_nil, List.length_cons, true_and, and_true, false_and, and_false, kl_i, kl_a, kl_n, kl_l, tl_s, tl_n, rv_S, pd_0, pd_e, pd_r, pd_i, pd_l, c3, b1, lpT (show i < 2147483648 by omega)]
      refine hK2 _ ⟨?_, ?_, ?_, fun z => absurd z (show ¬ (0 : Int32) = 1 by decide)⟩ (frR_t hf (by omega))
      · rw [gM_t, if_neg (by omega)]; exact c2
      · rw [gM_t, if_neg (by omega), c3, ← hr]; rfl
      · rw [gM_t, if_pos rfl]; rfl
    | succ r ih =>
      intro i h2 hi hr c2 c3 hf
      have b1 : gI h2 64 11 = nI n := (frR_S hf).trans g1
      have bB : gI h2 74 = B := (frR_B hf).trans hB
      rw [runB_s] at hr
      by_cases q : sortI (B i) = 0
      · rw [if_pos q] at hr
        refine hJ 96 _ _ _ _ ?_
        simp only [z_X6_next_96, u_X6_next_0, u_X6_next_8, u_X6_next_46, u_X6_next_72, u_X6_next_96, u_X6_next_135, u_X6_next_144, u_X6_next_159, u_X6_next_222, u_X6_next_235, u_X6_next_254, u_X6_next_256, u_X6_next_262, u_X6_next_274, u_X6_next_276, u_X6_next_279, j_X6_next_8, j_X6_next_46, j_X6_next_72, j_X6_next_96, j_X6_next_135, j_X6_next_144, j_X6_next_159, j_X6_next_222, j_X6_next_235, j_X6_next_254, j_X6_next_256, j_X6_next_262, j_X6_next_274, j_X6_next_276, j_X6_next_279, ev_aload_n0, ev_getfI, ev_putfI, ev_nop, ev_ic_ge, ev_getfR, ev_iaload, ev_bipush, ev_ic_ne, ev_dup_int, ev_dup_ref, ev_iconst, ev_iadd, ev_goto, ev_vret, ev_dup_x1_int_int, ev_dup_x1_int_ref, ev_dup_x1_ref_int, ev_dup_x1_ref_ref, ev_istore_n1, ev_iload_n1, ev_callS1, ev_if_eq, ev_isub, ev_imul, ev_ic_le, ↓e_X6_isDigit, ↓e_X6_isLetter, vq3_0, vq3_1, vq3_2, cq_0, cq_1, cq_2, capO_z, kb_6, kb_7, kb_8, kb_9, kb_10, kb_12, kb_16, kb_20, kb_21, kb_30, kb_32, kb_40, kb_48, kb_50, kb_57, kb_59, kb_60, kb_63, kb_70, kb_78, kb_81, kb_82, kb_84, kb_97, kb_99, kb_100, kb_101, kb_119, kb_120, kb_122, ki_m1, ki_0, ki_1, ki_2, ki_3, ki_4, ki_5, ki_6, ki_7, ki_8, ki_9, ki_10, ki_11, ki_12, ki_13, ki_14, ki_15, ki_16, ki_17, ki_18, ki_19, ki_20, ki_21, ki_22, ki_23, ki_24, ki_25, ki_26, ki_27, ki_28, ki_29, ki_30, ki_31, ki_32, ki_33, ki_34, ki_35, ki_36, ki_37, ki_38, ki_39, ki_40, ki_41, ki_42, ki_43, ki_44, ki_45, ki_46, ki_47, ki_48, ki_49, ki_50, ki_51, ki_52, ki_53, ki_54, ki_55, ki_56, ki_57, ki_58, ki_59, ki_60, ki_61, ki_62, ki_63, ks_m2000, ks_m1006, ks_m1005, ks_m1004, ks_m1003, ks_m1002, ks_m1000, ks_200, ks_250, ks_255, ks_256, ks_320, ks_660, ks_999, ks_1000, ks_9999, ks_12345, ne_2, ne_10, t_0, t_40, t_41, t_42, t_43, t_44, t_45, t_46, t_47, t_64, t_65, t_66, t_67, t_68, t_69, t_70, t_71, t_72, t_73, t_74, t_75, t_76, t_77, t_78, t_79, t_80, t_81, t_82, r_0_0, r_0_1, r_0_2, r_0_4, r_0_5, r_0_6, r_0_7, r_40_0, r_40_5, r_44_0, r_44_1, r_64_0, r_64_1, r_64_3, r_64_4, r_64_5, r_64_6, r_64_7, r_64_8, r_64_9, r_64_12, r_64_17, r_64_18, r_64_19, r_64_20, r_64_22, r_64_23, r_64_24, r_64_25, t_1, t_14, t_27, t_2, t_15, t_28, Nat.reduceEqDiff, ne_eq, not_false_eq_true, false_implies, true_implies, implies_true, Nat.reduceAdd, Nat.reduceLeDiff, Nat.reduceLT, Nat.reduceMul, or_true, true_or, if_true, if_false, not_true_eq_false, and_self, bF, Nat.reduceBEq, Bool.false_and, Bool.and_false, Bool.or_self, Bool.or_false, Bool.false_or, Bool.false_eq_true, Int.reduceAdd, Bool.and_self, Bool.true_and, Bool.and_true, beq_self_eq_true, not_not_, i10_, i01_, List.length_nil, List.length_cons, true_and, and_true, false_and, and_false, kl_i, kl_a, kl_n, kl_l, tl_s, tl_n, rv_S, pd_0, pd_e, pd_r, pd_i, pd_l, c3, b1, bB, lpF (show i < n by omega) (show n < 2147483648 by omega), one_z, vp250 (show i < 250 by omega), nI_clamp (show i < 2 ^ 31 by omega), nI_1, b2i_t q]
        refine ih (i + 1) _ (by omega) hr ?_ ?_ (frR_t hf (by omega))
        · rw [gM_t, if_neg (by omega)]; exact c2
        · rw [gM_t, if_pos rfl]
      · rw [if_neg q] at hr
        refine hJ 96 _ _ _ _ ?_
        simp only [z_X6_next_96, u_X6_next_0, u_X6_next_8, u_X6_next_46, u_X6_next_72, u_X6_next_96, u_X6_next_135, u_X6_next_144, u_X6_next_159, u_X6_next_222, u_X6_next_235, u_X6_next_254, u_X6_next_256, u_X6_next_262, u_X6_next_274, u_X6_next_276, u_X6_next_279, j_X6_next_8, j_X6_next_46, j_X6_next_72, j_X6_next_96, j_X6_next_135, j_X6_next_144, j_X6_next_159, j_X6_next_222, j_X6_next_235, j_X6_next_254, j_X6_next_256, j_X6_next_262, j_X6_next_274, j_X6_next_276, j_X6_next_279, ev_aload_n0, ev_getfI, ev_putfI, ev_nop, ev_ic_ge, ev_getfR, ev_iaload, ev_bipush, ev_ic_ne, ev_dup_int, ev_dup_ref, ev_iconst, ev_iadd, ev_goto, ev_vret, ev_dup_x1_int_int, ev_dup_x1_int_ref, ev_dup_x1_ref_int, ev_dup_x1_ref_ref, ev_istore_n1, ev_iload_n1, ev_callS1, ev_if_eq, ev_isub, ev_imul, ev_ic_le, ↓e_X6_isDigit, ↓e_X6_isLetter, vq3_0, vq3_1, vq3_2, cq_0, cq_1, cq_2, capO_z, kb_6, kb_7, kb_8, kb_9, kb_10, kb_12, kb_16, kb_20, kb_21, kb_30, kb_32, kb_40, kb_48, kb_50, kb_57, kb_59, kb_60, kb_63, kb_70, kb_78, kb_81, kb_82, kb_84, kb_97, kb_99, kb_100, kb_101, kb_119, kb_120, kb_122, ki_m1, ki_0, ki_1, ki_2, ki_3, ki_4, ki_5, ki_6, ki_7, ki_8, ki_9, ki_10, ki_11, ki_12, ki_13, ki_14, ki_15, ki_16, ki_17, ki_18, ki_19, ki_20, ki_21, ki_22, ki_23, ki_24, ki_25, ki_26, ki_27, ki_28, ki_29, ki_30, ki_31, ki_32, ki_33, ki_34, ki_35, ki_36, ki_37, ki_38, ki_39, ki_40, ki_41, ki_42, ki_43, ki_44, ki_45, ki_46, ki_47, ki_48, ki_49, ki_50, ki_51, ki_52, ki_53, ki_54, ki_55, ki_56, ki_57, ki_58, ki_59, ki_60, ki_61, ki_62, ki_63, ks_m2000, ks_m1006, ks_m1005, ks_m1004, ks_m1003, ks_m1002, ks_m1000, ks_200, ks_250, ks_255, ks_256, ks_320, ks_660, ks_999, ks_1000, ks_9999, ks_12345, ne_2, ne_10, t_0, t_40, t_41, t_42, t_43, t_44, t_45, t_46, t_47, t_64, t_65, t_66, t_67, t_68, t_69, t_70, t_71, t_72, t_73, t_74, t_75, t_76, t_77, t_78, t_79, t_80, t_81, t_82, r_0_0, r_0_1, r_0_2, r_0_4, r_0_5, r_0_6, r_0_7, r_40_0, r_40_5, r_44_0, r_44_1, r_64_0, r_64_1, r_64_3, r_64_4, r_64_5, r_64_6, r_64_7, r_64_8, r_64_9, r_64_12, r_64_17, r_64_18, r_64_19, r_64_20, r_64_22, r_64_23, r_64_24, r_64_25, t_1, t_14, t_27, t_2, t_15, t_28, Nat.reduceEqDiff, ne_eq, not_false_eq_true, false_implies, true_implies, implies_true, Nat.reduceAdd, Nat.reduceLeDiff, Nat.reduceLT, Nat.reduceMul, or_true, true_or, if_true, if_false, not_true_eq_false, and_self, bF, Nat.reduceBEq, Bool.false_and, Bool.and_false, Bool.or_self, Bool.or_false, Bool.false_or, Bool.false_eq_true, Int.reduceAdd, Bool.and_self, Bool.true_and, Bool.and_true, beq_self_eq_true, not_not_, i10_, i01_, List.length_nil, List.length_cons, true_and, and_true, false_and, and_false, kl_i, kl_a, kl_n, kl_l, tl_s, tl_n, rv_S, pd_0, pd_e, pd_r, pd_i, pd_l, c3, b1, bB, lpF (show i < n by omega) (show n < 2147483648 by omega), zero_z, vp250 (show i < 250 by omega), nI_clamp (show i < 2 ^ 31 by omega), nI_1, b2i_f q]
        refine hK2 _ ⟨?_, ?_, ?_, fun z => absurd z (show ¬ (0 : Int32) = 1 by decide)⟩ (frR_t hf (by omega))
        · rw [gM_t, if_neg (by omega)]; exact c2
        · rw [gM_t, if_neg (by omega), c3, ← hr]
        · rw [gM_t, if_pos rfl]; rfl
  have numb : ∀ s R c, (∀ h', tokM h' B (s, R, 1) → frR h h' → K none SH0 h') → ∀ r i h2, i + r = n → s < i → runB B 1 r i = R → gI h2 64 13 = nI s → gI h2 64 14 = nI i → (i - s ≤ 3 → gI h2 64 16 = valB B s (i - s)) → frR h h2 → J 159 SH0 [.ref 64, .int c] [] h2 := by
    intro s R c hK2 r
    have fin : ∀ i h2, s < i → i ≤ n → i = R → gI h2 64 13 = nI s → gI h2 64 14 = nI i → (i - s ≤ 3 → gI h2 64 16 = valB B s (i - s)) → frR h h2 → (3 < i - s → K none SH0 (pI h2 64 15 120)) ∧ (¬ 3 < i - s → K none SH0 (pI h2 64 15 48)) := by
      intro i h2 hs hi hR c2 c3 c4 hf
      subst hR
      refine ⟨fun q => hK2 _ ⟨?_, ?_, ?_, fun _ z => absurd z (by dsimp only; omega)⟩ (frR_t hf (by omega)), fun q => hK2 _ ⟨?_, ?_, ?_, fun _ z => ?_⟩ (frR_t hf (by omega))⟩
      · rw [gM_t, if_neg (by omega)]; exact c2
      · rw [gM_t, if_neg (by omega)]; exact c3
      · rw [gM_t, if_pos rfl]
        unfold tkI
        rw [if_neg (show ¬ (1 : Int32) = 0 by decide), if_pos rfl, if_neg (by dsimp only; omega)]
      · rw [gM_t, if_neg (by omega)]; exact c2
      · rw [gM_t, if_neg (by omega)]; exact c3
      · rw [gM_t, if_pos rfl]
        unfold tkI
        rw [if_neg (show ¬ (1 : Int32) = 0 by decide), if_pos rfl, if_pos (by dsimp only; omega)]
      · rw [gM_t, if_neg (by omega)]; exact c4 z
    induction r with
    | zero =>
      intro i h2 hi hs hr c2 c3 c4 hf
      have b1 : gI h2 64 11 = nI n := (frR_S hf).trans g1
      obtain rfl : i = n := by omega
      obtain ⟨f1, f2⟩ := fin i h2 hs (Nat.le_refl i) hr c2 c3 c4 hf
      refine hJ 159 _ _ _ _ ?_
      simp only [z_X6_next_159, u_X6_next_0, u_X6_next_8, u_X6_next_46, u_X6_next_72, u_X6_next_96, u_X6_next_135, u_X6_next_144, u_X6_next_159, u_X6_next_222, u_X6_next_235, u_X6_next_254, u_X6_next_256, u_X6_next_262, u_X6_next_274, u_X6_next_276, u_X6_next_279, j_X6_next_8, j_X6_next_46, j_X6_next_72, j_X6_next_96, j_X6_next_135, j_X6_next_144, j_X6_next_159, j_X6_next_222, j_X6_next_235, j_X6_next_254, j_X6_next_256, j_X6_next_262, j_X6_next_274, j_X6_next_276, j_X6_next_279, ev_aload_n0, ev_getfI, ev_putfI, ev_nop, ev_ic_ge, ev_getfR, ev_iaload, ev_bipush, ev_ic_ne, ev_dup_int, ev_dup_ref, ev_iconst, ev_iadd, ev_goto, ev_vret, ev_dup_x1_int_int, ev_dup_x1_int_ref, ev_dup_x1_ref_int, ev_dup_x1_ref_ref, ev_istore_n1, ev_iload_n1, ev_callS1, ev_if_eq, ev_isub, ev_imul, ev_ic_le, ↓e_X6_isDigit, ↓e_X6_isLetter, vq3_0, vq3_1, vq3_2, cq_0, cq_1, cq_2, capO_z, kb_6, kb_7, kb_8, kb_9, kb_10, kb_12, kb_16, kb_20, kb_21, kb_30, kb_32, kb_40, kb_48, kb_50, kb_57, kb_59, kb_60, kb_63, kb_70, kb_78, kb_81, kb_82, kb_84, kb_97, kb_99, kb_100, kb_101, kb_119, kb_120, kb_122, ki_m1, ki_0, ki_1, ki_2, ki_3, ki_4, ki_5, ki_6, ki_7, ki_8, ki_9, ki_10, ki_11, ki_12, ki_13, ki_14, ki_15, ki_16, ki_17, ki_18, ki_19, ki_20, ki_21, ki_22, ki_23, ki_24, ki_25, ki_26, ki_27, ki_28, ki_29, ki_30, ki_31, ki_32, ki_33, ki_34, ki_35, ki_36, ki_37, ki_38, ki_39, ki_40, ki_41, ki_42, ki_43, ki_44, ki_45, ki_46, ki_47, ki_48, ki_49, ki_50, ki_51, ki_52, ki_53, ki_54, ki_55, ki_56, ki_57, ki_58, ki_59, ki_60, ki_61, ki_62, ki_63, ks_m2000, ks_m1006, ks_m1005, ks_m1004, ks_m1003, ks_m1002, ks_m1000, ks_200, ks_250, ks_255, ks_256, ks_320, ks_660, ks_999, ks_1000, ks_9999, ks_12345, ne_2, ne_10, t_0, t_40, t_41, t_42, t_43, t_44, t_45, t_46, t_47, t_64, t_65, t_66, t_67, t_68, t_69, t_70, t_71, t_72, t_73, t_74, t_75, t_76, t_77, t_78, t_79, t_80, t_81, t_82, r_0_0, r_0_1, r_0_2, r_0_4, r_0_5, r_0_6, r_0_7, r_40_0, r_40_5, r_44_0, r_44_1, r_64_0, r_64_1, r_64_3, r_64_4, r_64_5, r_64_6, r_64_7, r_64_8, r_64_9, r_64_12, r_64_17, r_64_18, r_64_19, r_64_20, r_64_22, r_64_23, r_64_24, r_64_25, t_1, t_14, t_27, t_2, t_15, t_28, Nat.reduceEqDiff, ne_eq, not_false_eq_true, false_implies, true_implies, implies_true, Nat.reduceAdd, Nat.reduceLeDiff, Nat.reduceLT, Nat.reduceMul, or_true, true_or, if_true, if_false, not_true_eq_false, and_self, bF, Nat.reduceBEq, Bool.false_and, Bool.and_false, Bool.or_self, Bool.or_false, Bool.false_or, Bool.false_eq_true, Int.reduceAdd, Bool.and_self, Bool.true_and, Bool.and_true, beq_self_eq_true, not_not_, i10_, i01_, List.length_nil, List.length_cons, true_and, and_true, false_and, and_false, kl_i, kl_a, kl_n, kl_l, tl_s, tl_n, rv_S, pd_0, pd_e, pd_r, pd_i, pd_l, c2, c3, b1, lpT (show i < 2147483648 by omega), nI_sub (show s ≤ i by omega) (show i < 2147483648 by omega), show ((3 : Int32) < nI (i - s)) = (3 < i - s) from lt_nI (a := 3) (by omega) (by omega), show (nI (i - s) ≤ (3 : Int32)) = (i - s ≤ 3) from le_nI (b := 3) (by omega) (by omega)]
      exact ⟨fun q => f2 (by omega), fun q => f1 (by omega)⟩
    | succ r ih =>
      intro i h2 hi hs hr c2 c3 c4 hf
      have b1 : gI h2 64 11 = nI n := (frR_S hf).trans g1
      have bB : gI h2 74 = B := (frR_B hf).trans hB
      rw [runB_s] at hr
      by_cases q : sortI (B i) = 1
      · rw [if_pos q] at hr
        refine hJ 159 _ _ _ _ ?_
        simp only [z_X6_next_159, u_X6_next_0, u_X6_next_8, u_X6_next_46, u_X6_next_72, u_X6_next_96, u_X6_next_135, u_X6_next_144, u_X6_next_159, u_X6_next_222, u_X6_next_235, u_X6_next_254, u_X6_next_256, u_X6_next_262, u_X6_next_274, u_X6_next_276, u_X6_next_279, j_X6_next_8, j_X6_next_46, j_X6_next_72, j_X6_next_96, j_X6_next_135, j_X6_next_144, j_X6_next_159, j_X6_next_222, j_X6_next_235, j_X6_next_254, j_X6_next_256, j_X6_next_262, j_X6_next_274, j_X6_next_276, j_X6_next_279, ev_aload_n0, ev_getfI, ev_putfI, ev_nop, ev_ic_ge, ev_getfR, ev_iaload, ev_bipush, ev_ic_ne, ev_dup_int, ev_dup_ref, ev_iconst, ev_iadd, ev_goto, ev_vret, ev_dup_x1_int_int, ev_dup_x1_int_ref, ev_dup_x1_ref_int, ev_dup_x1_ref_ref, ev_istore_n1, ev_iload_n1, ev_callS1, ev_if_eq, ev_isub, ev_imul, ev_ic_le, ↓e_X6_isDigit, ↓e_X6_isLetter, vq3_0, vq3_1, vq3_2, cq_0, cq_1, cq_2, capO_z, kb_6, kb_7, kb_8, kb_9, kb_10, kb_12, kb_16, kb_20, kb_21, kb_30, kb_32, kb_40, kb_48, kb_50, kb_57, kb_59, kb_60, kb_63, kb_70, kb_78, kb_81, kb_82, kb_84, kb_97, kb_99, kb_100, kb_101, kb_119, kb_120, kb_122, ki_m1, ki_0, ki_1, ki_2, ki_3, ki_4, ki_5, ki_6, ki_7, ki_8, ki_9, ki_10, ki_11, ki_12, ki_13, ki_14, ki_15, ki_16, ki_17, ki_18, ki_19, ki_20, ki_21, ki_22, ki_23, ki_24, ki_25, ki_26, ki_27, ki_28, ki_29, ki_30, ki_31, ki_32, ki_33, ki_34, ki_35, ki_36, ki_37, ki_38, ki_39, ki_40, ki_41, ki_42, ki_43, ki_44, ki_45, ki_46, ki_47, ki_48, ki_49, ki_50, ki_51, ki_52, ki_53, ki_54, ki_55, ki_56, ki_57, ki_58, ki_59, ki_60, ki_61, ki_62, ki_63, ks_m2000, ks_m1006, ks_m1005, ks_m1004, ks_m1003, ks_m1002, ks_m1000, ks_200, ks_250, ks_255, ks_256, ks_320, ks_660, ks_999, ks_1000, ks_9999, ks_12345, ne_2, ne_10, t_0, t_40, t_41, t_42, t_43, t_44, t_45, t_46, t_47, t_64, t_65, t_66, t_67, t_68, t_69, t_70, t_71, t_72, t_73, t_74, t_75, t_76, t_77, t_78, t_79, t_80, t_81, t_82, r_0_0, r_0_1, r_0_2, r_0_4, r_0_5, r_0_6, r_0_7, r_40_0, r_40_5, r_44_0, r_44_1, r_64_0, r_64_1, r_64_3, r_64_4, r_64_5, r_64_6, r_64_7, r_64_8, r_64_9, r_64_12, r_64_17, r_64_18, r_64_19, r_64_20, r_64_22, r_64_23, r_64_24, r_64_25, t_1, t_14, t_27, t_2, t_15, t_28, Nat.reduceEqDiff, ne_eq, not_false_eq_true, false_implies, true_implies, implies_true, Nat.reduceAdd, Nat.reduceLeDiff, Nat.reduceLT, Nat.reduceMul, or_true, true_or, if_true, if_false, not_true_eq_false, and_self, bF, Nat.reduceBEq, Bool.false_and, Bool.and_false, Bool.or_self, Bool.or_false, Bool.false_or, Bool.false_eq_true, Int.reduceAdd, Bool.and_self, Bool.true_and, Bool.and_true, beq_self_eq_true, not_not_, i10_, i01_, List.length_nil, List.length_cons, true_and, and_true, false_and, and_false, kl_i, kl_a, kl_n, kl_l, tl_s, tl_n, rv_S, pd_0, pd_e, pd_r, pd_i, pd_l, c2, c3, b1, bB, gM_t, gM_b, lpF (show i < n by omega) (show n < 2147483648 by omega), one_z, vp250 (show i < 250 by omega), nI_clamp (show i < 2 ^ 31 by omega), nI_1, b2i_t q, nI_sub (show s ≤ i by omega) (show i < 2147483648 by omega), show ((3 : Int32) ≤ nI (i - s)) = (3 ≤ i - s) from le_nI (a := 3) (by omega) (by omega)]
        refine ⟨fun z => ih (i + 1) _ (by omega) (by omega) hr ?_ ?_ (fun y => by omega) (frR_t hf (by omega)), fun z => ih (i + 1) _ (by omega) (by omega) hr ?_ ?_ (fun y => ?_) (frR_t (frR_t hf (by omega)) (by omega))⟩
        · rw [gM_t, if_neg (by omega)]; exact c2
        · rw [gM_t, if_pos rfl]
        · rw [gM_t, if_neg (by omega), gM_t, if_neg (by omega)]; exact c2
        · rw [gM_t, if_pos rfl]
        · rw [gM_t, if_neg (by omega), gM_t, if_pos rfl, c4 (by omega), show i + 1 - s = (i - s) + 1 by omega, valB_s, show s + (i - s) = i by omega, Int32.mul_comm]
      · rw [if_neg q] at hr
        obtain ⟨f1, f2⟩ := fin i h2 hs (by omega) hr c2 c3 c4 hf
        refine hJ 159 _ _ _ _ ?_
        simp only [z_X6_next_159, u_X6_next_0, u_X6_next_8, u_X6_next_46, u_X6_next_72, u_X6_next_96, u_X6_next_135, u_X6_next_144, u_X6_next_159, u_X6_next_222, u_X6_next_235, u_X6_next_254, u_X6_next_256, u_X6_next_262, u_X6_next_274, u_X6_next_276, u_X6_next_279, j_X6_next_8, j_X6_next_46, j_X6_next_72, j_X6_next_96, j_X6_next_135, j_X6_next_144, j_X6_next_159, j_X6_next_222, j_X6_next_235, j_X6_next_254, j_X6_next_256, j_X6_next_262, j_X6_next_274, j_X6_next_276, j_X6_next_279, ev_aload_n0, ev_getfI, ev_putfI, ev_nop, ev_ic_ge, ev_getfR, ev_iaload, ev_bipush, ev_ic_ne, ev_dup_int, ev_dup_ref, ev_iconst, ev_iadd, ev_goto, ev_vret, ev_dup_x1_int_int, ev_dup_x1_int_ref, ev_dup_x1_ref_int, ev_dup_x1_ref_ref, ev_istore_n1, ev_iload_n1, ev_callS1, ev_if_eq, ev_isub, ev_imul, ev_ic_le, ↓e_X6_isDigit, ↓e_X6_isLetter, vq3_0, vq3_1, vq3_2, cq_0, cq_1, cq_2, capO_z, kb_6, kb_7, kb_8, kb_9, kb_10, kb_12, kb_16, kb_20, kb_21, kb_30, kb_32, kb_40, kb_48, kb_50, kb_57, kb_59, kb_60, kb_63, kb_70, kb_78, kb_81, kb_82, kb_84, kb_97, kb_99, kb_100, kb_101, kb_119, kb_120, kb_122, ki_m1, ki_0, ki_1, ki_2, ki_3, ki_4, ki_5, ki_6, ki_7, ki_8, ki_9, ki_10, ki_11, ki_12, ki_13, ki_14, ki_15, ki_16, ki_17, ki_18, ki_19, ki_20, ki_21, ki_22, ki_23, ki_24, ki_25, ki_26, ki_27, ki_28, ki_29, ki_30, ki_31, ki_32, ki_33, ki_34, ki_35, ki_36, ki_37, ki_38, ki_39, ki_40, ki_41, ki_42, ki_43, ki_44, ki_45, ki_46, ki_47, ki_48, ki_49, ki_50, ki_51, ki_52, ki_53, ki_54, ki_55, ki_56, ki_57, ki_58, ki_59, ki_60, ki_61, ki_62, ki_63, ks_m2000, ks_m1006, ks_m1005, ks_m1004, ks_m1003, ks_m1002, ks_m1000, ks_200, ks_250, ks_255, ks_256, ks_320, ks_660, ks_999, ks_1000, ks_9999, ks_12345, ne_2, ne_10, t_0, t_40, t_41, t_42, t_43, t_44, t_45, t_46, t_47, t_64, t_65, t_66, t_67, t_68, t_69, t_70, t_71, t_72, t_73, t_74, t_75, t_76, t_77, t_78, t_79, t_80, t_81, t_82, r_0_0, r_0_1, r_0_2, r_0_4, r_0_5, r_0_6, r_0_7, r_40_0, r_40_5, r_44_0, r_44_1, r_64_0, r_64_1, r_64_3, r_64_4, r_64_5, r_64_6, r_64_7, r_64_8, r_64_9, r_64_12, r_64_17, r_64_18, r_64_19, r_64_20, r_64_22, r_64_23, r_64_24, r_64_25, t_1, t_14, t_27, t_2, t_15, t_28, Nat.reduceEqDiff, ne_eq, not_false_eq_true, false_implies, true_implies, implies_true, Nat.reduceAdd, Nat.reduceLeDiff, Nat.reduceLT, Nat.reduceMul, or_true, true_or, if_true, if_false, not_true_eq_false, and_self, bF, Nat.reduceBEq, Bool.false_and, Bool.and_false, Bool.or_self, Bool.or_false, Bool.false_or, Bool.false_eq_true, Int.reduceAdd, Bool.and_self, Bool.true_and, Bool.and_true, beq_self_eq_true, not_not_, i10_, i01_, List.length_nil, List.length_cons, true_and, and_true, false_and, and_false, kl_i, kl_a, kl_n, kl_l, tl_s, tl_n, rv_S, pd_0, pd_e, pd_r, pd_i, pd_l, c2, c3, b1, bB, lpF (show i < n by omega) (show n < 2147483648 by omega), zero_z, vp250 (show i < 250 by omega), nI_clamp (show i < 2 ^ 31 by omega), nI_1, b2i_f q, nI_sub (show s ≤ i by omega) (show i < 2147483648 by omega), show ((3 : Int32) < nI (i - s)) = (3 < i - s) from lt_nI (a := 3) (by omega) (by omega), show (nI (i - s) ≤ (3 : Int32)) = (i - s ≤ 3) from le_nI (b := 3) (by omega) (by omega)]
        exact ⟨fun q => f2 (by omega), fun q => f1 (by omega)⟩
  refine hJ 0 _ _ _ _ ?_
  simp only [z_X6_next_0, u_X6_next_0, u_X6_next_8, u_X6_next_46, u_X6_next_72, u_X6_next_96, u_X6_next_135, u_X6_next_144, u_X6_next_159, u_X6_next_222, u_X6_next_235, u_X6_next_254, u_X6_next_256, u_X6_next_262, u_X6_next_274, u_X6_next_276, u_X6_next_279, j_X6_next_8, j_X6_next_46, j_X6_next_72, j_X6_next_96, j_X6_next_135, j_X6_next_144, j_X6_next_159, j_X6_next_222, j_X6_next_235, j_X6_next_254, j_X6_next_256, j_X6_next_262, j_X6_next_274, j_X6_next_276, j_X6_next_279, ev_aload_n0, ev_getfI, ev_putfI, ev_nop, ev_ic_ge, ev_getfR, ev_iaload, ev_bipush, ev_ic_ne, ev_dup_int, ev_dup_ref, ev_iconst, ev_iadd, ev_goto, ev_vret, ev_dup_x1_int_int, ev_dup_x1_int_ref, ev_dup_x1_ref_int, ev_dup_x1_ref_ref, ev_istore_n1, ev_iload_n1, ev_callS1, ev_if_eq, ev_isub, ev_imul, ev_ic_le, ↓e_X6_isDigit, ↓e_X6_isLetter, vq3_0, vq3_1, vq3_2, cq_0, cq_1, cq_2, capO_z, kb_6, kb_7, kb_8, kb_9, kb_10, kb_12, kb_16, kb_20, kb_21, kb_30, kb_32, kb_40, kb_48, kb_50, kb_57, kb_59, kb_60, kb_63, kb_70, kb_78, kb_81, kb_82, kb_84, kb_97, kb_99, kb_100, kb_101, kb_119, kb_120, kb_122, ki_m1, ki_0, ki_1, ki_2, ki_3, ki_4, ki_5, ki_6, ki_7, ki_8, ki_9, ki_10, ki_11, ki_12, ki_13, ki_14, ki_15, ki_16, ki_17, ki_18, ki_19, ki_20, ki_21, ki_22, ki_23, ki_24, ki_25, ki_26, ki_27, ki_28, ki_29, ki_30, ki_31, ki_32, ki_33, ki_34, ki_35, ki_36, ki_37, ki_38, ki_39, ki_40, ki_41, ki_42, ki_43, ki_44, ki_45, ki_46, ki_47, ki_48, ki_49, ki_50, ki_51, ki_52, ki_53, ki_54, ki_55, ki_56, ki_57, ki_58, ki_59, ki_60, ki_61, ki_62, ki_63, ks_m2000, ks_m1006, ks_m1005, ks_m1004, ks_m1003, ks_m1002, ks_m1000, ks_200, ks_250, ks_255, ks_256, ks_320, ks_660, ks_999, ks_1000, ks_9999, ks_12345, ne_2, ne_10, t_0, t_40, t_41, t_42, t_43, t_44, t_45, t_46, t_47, t_64, t_65, t_66, t_67, t_68, t_69, t_70, t_71, t_72, t_73, t_74, t_75, t_76, t_77, t_78, t_79, t_80, t_81, t_82, r_0_0, r_0_1, r_0_2, r_0_4, r_0_5, r_0_6, r_0_7, r_40_0, r_40_5, r_44_0, r_44_1, r_64_0, r_64_1, r_64_3, r_64_4, r_64_5, r_64_6, r_64_7, r_64_8, r_64_9, r_64_12, r_64_17, r_64_18, r_64_19, r_64_20, r_64_22, r_64_23, r_64_24, r_64_25, t_1, t_14, t_27, t_2, t_15, t_28, Nat.reduceEqDiff, ne_eq, not_false_eq_true, false_implies, true_implies, implies_true, Nat.reduceAdd, Nat.reduceLeDiff, Nat.reduceLT, Nat.reduceMul, or_true, true_or, if_true, if_false, not_true_eq_false, and_self, bF, Nat.reduceBEq, Bool.false_and, Bool.and_false, Bool.or_self, Bool.or_false, Bool.false_or, Bool.false_eq_true, Int.reduceAdd, Bool.and_self, Bool.true_and, Bool.and_true, beq_self_eq_true, not_not_, i10_, i01_, List.length_nil, List.length_cons, true_and, and_true, false_and, and_false, kl_i, kl_a, kl_n, kl_l, tl_s, tl_n, rv_S, pd_0, pd_e, pd_r, pd_i, pd_l, g2]
  have key : ∀ r i h1, i + r = n → skipB B r i = skipB B (n - e) e → gI h1 64 13 = nI i → frR h h1 → J 8 SH0 [.ref 64, .null] [] h1 := by
    intro r
    induction r with
    | zero =>
      intro i h1 hi hs c2 hf
      have b1 : gI h1 64 11 = nI n := (frR_S hf).trans g1
      obtain rfl : i = n := by omega
      refine hJ 8 _ _ _ _ ?_
      simp only [z_X6_next_8, u_X6_next_0, u_X6_next_8, u_X6_next_46, u_X6_next_72, u_X6_next_96, u_X6_next_135, u_X6_next_144, u_X6_next_159, u_X6_next_222, u_X6_next_235, u_X6_next_254, u_X6_next_256, u_X6_next_262, u_X6_next_274, u_X6_next_276, u_X6_next_279, j_X6_next_8, j_X6_next_46, j_X6_next_72, j_X6_next_96, j_X6_next_135, j_X6_next_144, j_X6_next_159, j_X6_next_222, j_X6_next_235, j_X6_next_254, j_X6_next_256, j_X6_next_262, j_X6_next_274, j_X6_next_276, j_X6_next_279, ev_aload_n0, ev_getfI, ev_putfI, ev_nop, ev_ic_ge, ev_getfR, ev_iaload, ev_bipush, ev_ic_ne, ev_dup_int, ev_dup_ref, ev_iconst, ev_iadd, ev_goto, ev_vret, ev_dup_x1_int_int, ev_dup_x1_int_ref, ev_dup_x1_ref_int, ev_dup_x1_ref_ref, ev_istore_n1, ev_iload_n1, ev_callS1, ev_if_eq, ev_isub, ev_imul, ev_ic_le, ↓e_X6_isDigit, ↓e_X6_isLetter, vq3_0, vq3_1, vq3_2, cq_0, cq_1, cq_2, capO_z, kb_6, kb_7, kb_8, kb_9, kb_10, kb_12, kb_16, kb_20, kb_21, kb_30, kb_32, kb_40, kb_48, kb_50, kb_57, kb_59, kb_60, kb_63, kb_70, kb_78, kb_81, kb_82, kb_84, kb_97, kb_99, kb_100, kb_101, kb_119, kb_120, kb_122, ki_m1, ki_0, ki_1, ki_2, ki_3, ki_4, ki_5, ki_6, ki_7, ki_8, ki_9, ki_10, ki_11, ki_12, ki_13, ki_14, ki_15, ki_16, ki_17, ki_18, ki_19, ki_20, ki_21, ki_22, ki_23, ki_24, ki_25, ki_26, ki_27, ki_28, ki_29, ki_30, ki_31, ki_32, ki_33, ki_34, ki_35, ki_36, ki_37, ki_38, ki_39, ki_40, ki_41, ki_42, ki_43, ki_44, ki_45, ki_46, ki_47, ki_48, ki_49, ki_50, ki_51, ki_52, ki_53, ki_54, ki_55, ki_56, ki_57, ki_58, ki_59, ki_60, ki_61, ki_62, ki_63, ks_m2000, ks_m1006, ks_m1005, ks_m1004, ks_m1003, ks_m1002, ks_m1000, ks_200, ks_250, ks_255, ks_256, ks_320, ks_660, ks_999, ks_1000, ks_9999, ks_12345, ne_2, ne_10, t_0, t_40, t_41, t_42, t_43, t_44, t_45, t_46, t_47, t_64, t_65, t_66, t_67, t_68, t_69, t_70, t_71, t_72, t_73, t_74, t_75, t_76, t_77, t_78, t_79, t_80, t_81, t_82, r_0_0, r_0_1, r_0_2, r_0_4, r_0_5, r_0_6, r_0_7, r_40_0, r_40_5, r_44_0, r_44_1, r_64_0, r_64_1, r_64_3, r_64_4, r_64_5, r_64_6, r_64_7, r_64_8, r_64_9, r_64_12, r_64_17, r_64_18, r_64_19, r_64_20, r_64_22, r_64_23, r_64_24, r_64_25, t_1, t_14, t_27, t_2, t_15, t_28, Nat.reduceEqDiff, ne_eq, not_false_eq_true, false_implies, true_implies, implies_true, Nat.reduceAdd, Nat.reduceLeDiff, Nat.reduceLT, Nat.reduceMul, or_true, true_or, if_true, if_false, not_true_eq_false, and_self, bF, Nat.reduceBEq, Bool.false_and, Bool.and_false, Bool.or_self, Bool.or_false, Bool.false_or, Bool.false_eq_true, Int.reduceAdd, Bool.and_self, Bool.true_and, Bool.and_true, beq_self_eq_true, not_not_, i10_, i01_, List.length_nil, List.length_cons, true_and, and_true, false_and, and_false, kl_i, kl_a, kl_n, kl_l, tl_s, tl_n, rv_S, pd_0, pd_e, pd_r, pd_i, pd_l, c2, b1, lpT (show i < 2147483648 by omega), gM_t, eq_self]
      have eT : nextB B i e = (i, i, 4) := by
        unfold nextB
        rw [← hs]
        unfold tokB
        exact if_pos (Nat.le_refl i)
      rw [eT] at hK
      refine hK _ ⟨?_, ?_, ?_, fun z => absurd z (show ¬ (4 : Int32) = 1 by decide)⟩ (frR_t (frR_t hf (by omega)) (by omega))
      · rw [gM_t, if_neg (by omega), gM_t, if_neg (by omega)]; exact c2
      · rw [gM_t, if_neg (by omega), gM_t, if_pos rfl]
      · rw [gM_t, if_pos rfl]; rfl
    | succ r ih =>
      intro i h1 hi hs c2 hf
      have b1 : gI h1 64 11 = nI n := (frR_S hf).trans g1
      have bB : gI h1 74 = B := (frR_B hf).trans hB
      rw [skipB_s] at hs
      refine hJ 8 _ _ _ _ ?_
      simp only [z_X6_next_8, u_X6_next_0, u_X6_next_8, u_X6_next_46, u_X6_next_72, u_X6_next_96, u_X6_next_135, u_X6_next_144, u_X6_next_159, u_X6_next_222, u_X6_next_235, u_X6_next_254, u_X6_next_256, u_X6_next_262, u_X6_next_274, u_X6_next_276, u_X6_next_279, j_X6_next_8, j_X6_next_46, j_X6_next_72, j_X6_next_96, j_X6_next_135, j_X6_next_144, j_X6_next_159, j_X6_next_222, j_X6_next_235, j_X6_next_254, j_X6_next_256, j_X6_next_262, j_X6_next_274, j_X6_next_276, j_X6_next_279, ev_aload_n0, ev_getfI, ev_putfI, ev_nop, ev_ic_ge, ev_getfR, ev_iaload, ev_bipush, ev_ic_ne, ev_dup_int, ev_dup_ref, ev_iconst, ev_iadd, ev_goto, ev_vret, ev_dup_x1_int_int, ev_dup_x1_int_ref, ev_dup_x1_ref_int, ev_dup_x1_ref_ref, ev_istore_n1, ev_iload_n1, ev_callS1, ev_if_eq, ev_isub, ev_imul, ev_ic_le, ↓e_X6_isDigit, ↓e_X6_isLetter, vq3_0, vq3_1, vq3_2, cq_0, cq_1, cq_2, capO_z, kb_6, kb_7, kb_8, kb_9, kb_10, kb_12, kb_16, kb_20, kb_21, kb_30, kb_32, kb_40, kb_48, kb_50, kb_57, kb_59, kb_60, kb_63, kb_70, kb_78, kb_81, kb_82, kb_84, kb_97, kb_99, kb_100, kb_101, kb_119, kb_120, kb_122, ki_m1, ki_0, ki_1, ki_2, ki_3, ki_4, ki_5, ki_6, ki_7, ki_8, ki_9, ki_10, ki_11, ki_12, ki_13, ki_14, ki_15, ki_16, ki_17, ki_18, ki_19, ki_20, ki_21, ki_22, ki_23, ki_24, ki_25, ki_26, ki_27, ki_28, ki_29, ki_30, ki_31, ki_32, ki_33, ki_34, ki_35, ki_36, ki_37, ki_38, ki_39, ki_40, ki_41, ki_42, ki_43, ki_44, ki_45, ki_46, ki_47, ki_48, ki_49, ki_50, ki_51, ki_52, ki_53, ki_54, ki_55, ki_56, ki_57, ki_58, ki_59, ki_60, ki_61, ki_62, ki_63, ks_m2000, ks_m1006, ks_m1005, ks_m1004, ks_m1003, ks_m1002, ks_m1000, ks_200, ks_250, ks_255, ks_256, ks_320, ks_660, ks_999, ks_1000, ks_9999, ks_12345, ne_2, ne_10, t_0, t_40, t_41, t_42, t_43, t_44, t_45, t_46, t_47, t_64, t_65, t_66, t_67, t_68, t_69, t_70, t_71, t_72, t_73, t_74, t_75, t_76, t_77, t_78, t_79, t_80, t_81, t_82, r_0_0, r_0_1, r_0_2, r_0_4, r_0_5, r_0_6, r_0_7, r_40_0, r_40_5, r_44_0, r_44_1, r_64_0, r_64_1, r_64_3, r_64_4, r_64_5, r_64_6, r_64_7, r_64_8, r_64_9, r_64_12, r_64_17, r_64_18, r_64_19, r_64_20, r_64_22, r_64_23, r_64_24, r_64_25, t_1, t_14, t_27, t_2, t_15, t_28, Nat.reduceEqDiff, ne_eq, not_false_eq_true, false_implies, true_implies, implies_true, Nat.reduceAdd, Nat.reduceLeDiff, Nat.reduceLT, Nat.reduceMul, or_true, true_or, if_true, if_false, not_true_eq_false, and_self, bF, Nat.reduceBEq, Bool.false_and, Bool.and_false, Bool.or_self, Bool.or_false, Bool.false_or, Bool.false_eq_true, Int.reduceAdd, Bool.and_self, Bool.true_and, Bool.and_true, beq_self_eq_true, not_not_, i10_, i01_, List.length_nil, List.length_cons, true_and, and_true, false_and, and_false, kl_i, kl_a, kl_n, kl_l, tl_s, tl_n, rv_S, pd_0, pd_e, pd_r, pd_i, pd_l, c2, b1, bB, gM_t, gM_b, vq_ne (show i < n by omega) (show n < 2147483648 by omega), lpF (show i < n by omega) (show n < 2147483648 by omega), vp250 (show i < 250 by omega), nI_clamp (show i < 2 ^ 31 by omega), nI_1]
      refine ⟨fun q => ?_, fun q => ?_⟩
      · rw [if_neg q] at hs
        have eT : nextB B n e = (i, (if sortI (B i) = 0 ∨ sortI (B i) = 1 then runB B (sortI (B i)) r (i + 1) else i + 1), sortI (B i)) := by
          unfold nextB
          rw [← hs]
          unfold tokB
          rw [if_neg (by omega), show n - (i + 1) = r by omega]
        rw [eT] at hK
        have d2 : gI (pI (pI h1 64 14 (nI i)) 64 14 (nI (i + 1))) 64 13 = nI i := by rw [gM_t, if_neg (by omega), gM_t, if_neg (by omega)]; exact c2
        have d3 : gI (pI (pI h1 64 14 (nI i)) 64 14 (nI (i + 1))) 64 14 = nI (i + 1) := by rw [gM_t, if_pos rfl]
        have df : frR h (pI (pI h1 64 14 (nI i)) 64 14 (nI (i + 1))) := frR_t (frR_t hf (by omega)) (by omega)
        generalize pI (pI h1 64 14 (nI i)) 64 14 (nI (i + 1)) = h3 at *
        by_cases q2 : sortI (B i) = 0
        · rw [q2, if_pos (Or.inl rfl)] at hK
          simp only [u_X6_next_0, u_X6_next_8, u_X6_next_46, u_X6_next_72, u_X6_next_96, u_X6_next_135, u_X6_next_144, u_X6_next_159, u_X6_next_222, u_X6_next_235, u_X6_next_254, u_X6_next_256, u_X6_next_262, u_X6_next_274, u_X6_next_276, u_X6_next_279, j_X6_next_8, j_X6_next_46, j_X6_next_72, j_X6_next_96, j_X6_next_135, j_X6_next_144, j_X6_next_159, j_X6_next_222, j_X6_next_235, j_X6_next_254, j_X6_next_256, j_X6_next_262, j_X6_next_274, j_X6_next_276, j_X6_next_279, ev_aload_n0, ev_getfI, ev_putfI, ev_nop, ev_ic_ge, ev_getfR, ev_iaload, ev_bipush, ev_ic_ne, ev_dup_int, ev_dup_ref, ev_iconst, ev_iadd, ev_goto, ev_vret, ev_dup_x1_int_int, ev_dup_x1_int_ref, ev_dup_x1_ref_int, ev_dup_x1_ref_ref, ev_istore_n1, ev_iload_n1, ev_callS1, ev_if_eq, ev_isub, ev_imul, ev_ic_le, ↓e_X6_isDigit, ↓e_X6_isLetter, vq3_0, vq3_1, vq3_2, cq_0, cq_1, cq_2, capO_z, kb_6, kb_7, kb_8, kb_9, kb_10, kb_12, kb_16, kb_20, kb_21, kb_30, kb_32, kb_40, kb_48, kb_50, kb_57, kb_59, kb_60, kb_63, kb_70, kb_78, kb_81, kb_82, kb_84, kb_97, kb_99, kb_100, kb_101, kb_119, kb_120, kb_122, ki_m1, ki_0, ki_1, ki_2, ki_3, ki_4, ki_5, ki_6, ki_7, ki_8, ki_9, ki_10, ki_11, ki_12, ki_13, ki_14, ki_15, ki_16, ki_17, ki_18, ki_19, ki_20, ki_21, ki_22, ki_23, ki_24, ki_25, ki_26, ki_27, ki_28, ki_29, ki_30, ki_31, ki_32, ki_33, ki_34, ki_35, ki_36, ki_37, ki_38, ki_39, ki_40, ki_41, ki_42, ki_43, ki_44, ki_45, ki_46, ki_47, ki_48, ki_49, ki_50, ki_51, ki_52, ki_53, ki_54, ki_55, ki_56, ki_57, ki_58, ki_59, ki_60, ki_61, ki_62, ki_63, ks_m2000, ks_m1006, ks_m1005, ks_m1004, ks_m1003, ks_m1002, ks_m1000, ks_200, ks_250, ks_255, ks_256, ks_320, ks_660, ks_999, ks_1000, ks_9999, ks_12345, ne_2, ne_10, t_0, t_40, t_41, t_42, t_43, t_44, t_45, t_46, t_47, t_64, t_65, t_66, t_67, t_68, t_69, t_70, t_71, t_72, t_73, t_74, t_75, t_76, t_77, t_78, t_79, t_80, t_81, t_82, r_0_0, r_0_1, r_0_2, r_0_4, r_0_5, r_0_6, r_0_7, r_40_0, r_40_5, r_44_0, r_44_1, r_64_0, r_64_1, r_64_3, r_64_4, r_64_5, r_64_6, r_64_7, r_64_8, r_64_9, r_64_12, r_64_17, r_64_18, r_64_19, r_64_20, r_64_22, r_64_23, r_64_24, r_64_25, t_1, t_14, t_27, t_2, t_15, t_28, Nat.reduceEqDiff, ne_eq, not_false_eq_true, false_implies, true_implies, implies_true, Nat.reduceAdd, Nat.reduceLeDiff, Nat.reduceLT, Nat.reduceMul, or_true, true_or, if_true, if_false, not_true_eq_false, and_self, bF, Nat.reduceBEq, Bool.false_and, Bool.and_false, Bool.or_self, Bool.or_false, Bool.false_or, Bool.false_eq_true, Int.reduceAdd, Bool.and_self, Bool.true_and, Bool.and_true, beq_self_eq_true, not_not_, i10_, i01_, List.length_nil, List.length_cons, true_and, and_true, false_and, and_false, kl_i, kl_a, kl_n, kl_l, tl_s, tl_n, rv_S, pd_0, pd_e, pd_r, pd_i, pd_l, b2i_t q2, one_z]
          exact word i _ _ hK r (i + 1) _ (by omega) rfl d2 d3 df
        · by_cases q3 : sortI (B i) = 1
          · rw [q3, if_pos (Or.inr rfl)] at hK
            simp only [u_X6_next_0, u_X6_next_8, u_X6_next_46, u_X6_next_72, u_X6_next_96, u_X6_next_135, u_X6_next_144, u_X6_next_159, u_X6_next_222, u_X6_next_235, u_X6_next_254, u_X6_next_256, u_X6_next_262, u_X6_next_274, u_X6_next_276, u_X6_next_279, j_X6_next_8, j_X6_next_46, j_X6_next_72, j_X6_next_96, j_X6_next_135, j_X6_next_144, j_X6_next_159, j_X6_next_222, j_X6_next_235, j_X6_next_254, j_X6_next_256, j_X6_next_262, j_X6_next_274, j_X6_next_276, j_X6_next_279, ev_aload_n0, ev_getfI, ev_putfI, ev_nop, ev_ic_ge, ev_getfR, ev_iaload, ev_bipush, ev_ic_ne, ev_dup_int, ev_dup_ref, ev_iconst, ev_iadd, ev_goto, ev_vret, ev_dup_x1_int_int, ev_dup_x1_int_ref, ev_dup_x1_ref_int, ev_dup_x1_ref_ref, ev_istore_n1, ev_iload_n1, ev_callS1, ev_if_eq, ev_isub, ev_imul, ev_ic_le, ↓e_X6_isDigit, ↓e_X6_isLetter, vq3_0, vq3_1, vq3_2, cq_0, cq_1, cq_2, capO_z, kb_6, kb_7, kb_8, kb_9, kb_10, kb_12, kb_16, kb_20, kb_21, kb_30, kb_32, kb_40, kb_48, kb_50, kb_57, kb_59, kb_60, kb_63, kb_70, kb_78, kb_81, kb_82, kb_84, kb_97, kb_99, kb_100, kb_101, kb_119, kb_120, kb_122, ki_m1, ki_0, ki_1, ki_2, ki_3, ki_4, ki_5, ki_6, ki_7, ki_8, ki_9, ki_10, ki_11, ki_12, ki_13, ki_14, ki_15, ki_16, ki_17, ki_18, ki_19, ki_20, ki_21, ki_22, ki_23, ki_24, ki_25, ki_26, ki_27, ki_28, ki_29, ki_30, ki_31, ki_32, ki_33, ki_34, ki_35, ki_36, ki_37, ki_38, ki_39, ki_40, ki_41, ki_42, ki_43, ki_44, ki_45, ki_46, ki_47, ki_48, ki_49, ki_50, ki_51, ki_52, ki_53, ki_54, ki_55, ki_56, ki_57, ki_58, ki_59, ki_60, ki_61, ki_62, ki_63, ks_m2000, ks_m1006, ks_m1005, ks_m1004, ks_m1003, ks_m1002, ks_m1000, ks_200, ks_250, ks_255, ks_256, ks_320, ks_660, ks_999, ks_1000, ks_9999, ks_12345, ne_2, ne_10, t_0, t_40, t_41, t_42, t_43, t_44, t_45, t_46, t_47, t_64, t_65, t_66, t_67, t_68, t_69, t_70, t_71, t_72, t_73, t_74, t_75, t_76, t_77, t_78, t_79, t_80, t_81, t_82, r_0_0, r_0_1, r_0_2, r_0_4, r_0_5, r_0_6, r_0_7, r_40_0, r_40_5, r_44_0, r_44_1, r_64_0, r_64_1, r_64_3, r_64_4, r_64_5, r_64_6, r_64_7, r_64_8, r_64_9, r_64_12, r_64_17, r_64_18, r_64_19, r_64_20, r_64_22, r_64_23, r_64_24, r_64_25, t_1, t_14, t_27, t_2, t_15, t_28, Nat.reduceEqDiff, ne_eq, not_false_eq_true, false_implies, true_implies, implies_true, Nat.reduceAdd, Nat.reduceLeDiff, Nat.reduceLT, Nat.reduceMul, or_true, true_or, if_true, if_false, not_true_eq_false, and_self, bF, Nat.reduceBEq, Bool.false_and, Bool.and_false, Bool.or_self, Bool.or_false, Bool.false_or, Bool.false_eq_true, Int.reduceAdd, Bool.and_self, Bool.true_and, Bool.and_true, beq_self_eq_true, not_not_, i10_, i01_, List.length_nil, List.length_cons, true_and, and_true, false_and, and_false, kl_i, kl_a, kl_n, kl_l, tl_s, tl_n, rv_S, pd_0, pd_e, pd_r, pd_i, pd_l, b2i_f q2, b2i_t q3, one_z, zero_z]
            refine numb i _ _ hK r (i + 1) _ (by omega) (by omega) rfl ?_ ?_ (fun _ => ?_) (frR_t df (by omega))
            · rw [gM_t, if_neg (by omega)]; exact d2
            · rw [gM_t, if_neg (by omega)]; exact d3
            · rw [gM_t, if_pos rfl, show i + 1 - i = 1 by omega, valB_1]
          · obtain ⟨s2, s3⟩ := sort_S q2 q3
            rw [if_neg (fun z => z.elim q2 q3)] at hK
            simp only [u_X6_next_0, u_X6_next_8, u_X6_next_46, u_X6_next_72, u_X6_next_96, u_X6_next_135, u_X6_next_144, u_X6_next_159, u_X6_next_222, u_X6_next_235, u_X6_next_254, u_X6_next_256, u_X6_next_262, u_X6_next_274, u_X6_next_276, u_X6_next_279, j_X6_next_8, j_X6_next_46, j_X6_next_72, j_X6_next_96, j_X6_next_135, j_X6_next_144, j_X6_next_159, j_X6_next_222, j_X6_next_235, j_X6_next_254, j_X6_next_256, j_X6_next_262, j_X6_next_274, j_X6_next_276, j_X6_next_279, ev_aload_n0, ev_getfI, ev_putfI, ev_nop, ev_ic_ge, ev_getfR, ev_iaload, ev_bipush, ev_ic_ne, ev_dup_int, ev_dup_ref, ev_iconst, ev_iadd, ev_goto, ev_vret, ev_dup_x1_int_int, ev_dup_x1_int_ref, ev_dup_x1_ref_int, ev_dup_x1_ref_ref, ev_istore_n1, ev_iload_n1, ev_callS1, ev_if_eq, ev_isub, ev_imul, ev_ic_le, ↓e_X6_isDigit, ↓e_X6_isLetter, vq3_0, vq3_1, vq3_2, cq_0, cq_1, cq_2, capO_z, kb_6, kb_7, kb_8, kb_9, kb_10, kb_12, kb_16, kb_20, kb_21, kb_30, kb_32, kb_40, kb_48, kb_50, kb_57, kb_59, kb_60, kb_63, kb_70, kb_78, kb_81, kb_82, kb_84, kb_97, kb_99, kb_100, kb_101, kb_119, kb_120, kb_122, ki_m1, ki_0, ki_1, ki_2, ki_3, ki_4, ki_5, ki_6, ki_7, ki_8, ki_9, ki_10, ki_11, ki_12, ki_13, ki_14, ki_15, ki_16, ki_17, ki_18, ki_19, ki_20, ki_21, ki_22, ki_23, ki_24, ki_25, ki_26, ki_27, ki_28, ki_29, ki_30, ki_31, ki_32, ki_33, ki_34, ki_35, ki_36, ki_37, ki_38, ki_39, ki_40, ki_41, ki_42, ki_43, ki_44, ki_45, ki_46, ki_47, ki_48, ki_49, ki_50, ki_51, ki_52, ki_53, ki_54, ki_55, ki_56, ki_57, ki_58, ki_59, ki_60, ki_61, ki_62, ki_63, ks_m2000, ks_m1006, ks_m1005, ks_m1004, ks_m1003, ks_m1002, ks_m1000, ks_200, ks_250, ks_255, ks_256, ks_320, ks_660, ks_999, ks_1000, ks_9999, ks_12345, ne_2, ne_10, t_0, t_40, t_41, t_42, t_43, t_44, t_45, t_46, t_47, t_64, t_65, t_66, t_67, t_68, t_69, t_70, t_71, t_72, t_73, t_74, t_75, t_76, t_77, t_78, t_79, t_80, t_81, t_82, r_0_0, r_0_1, r_0_2, r_0_4, r_0_5, r_0_6, r_0_7, r_40_0, r_40_5, r_44_0, r_44_1, r_64_0, r_64_1, r_64_3, r_64_4, r_64_5, r_64_6, r_64_7, r_64_8, r_64_9, r_64_12, r_64_17, r_64_18, r_64_19, r_64_20, r_64_22, r_64_23, r_64_24, r_64_25, t_1, t_14, t_27, t_2, t_15, t_28, Nat.reduceEqDiff, ne_eq, not_false_eq_true, false_implies, true_implies, implies_true, Nat.reduceAdd, Nat.reduceLeDiff, Nat.reduceLT, Nat.reduceMul, or_true, true_or, if_true, if_false, not_true_eq_false, and_self, bF, Nat.reduceBEq, Bool.false_and, Bool.and_false, Bool.or_self, Bool.or_false, Bool.false_or, Bool.false_eq_true, Int.reduceAdd, Bool.and_self, Bool.true_and, Bool.and_true, beq_self_eq_true, not_not_, i10_, i01_, List.length_nil, List.length_cons, true_and, and_true, false_and, and_false, kl_i, kl_a, kl_n, kl_l, tl_s, tl_n, rv_S, pd_0, pd_e, pd_r, pd_i, pd_l, b2i_f q2, b2i_f q3, zero_z]
            refine ⟨fun z => ?_, fun z => ?_⟩
            · rw [s3 z] at hK
              refine hK _ ⟨?_, ?_, ?_, fun z => absurd z (show ¬ (3 : Int32) = 1 by decide)⟩ (frR_t df (by omega))
              · rw [gM_t, if_neg (by omega)]; exact d2
              · rw [gM_t, if_neg (by omega)]; exact d3
              · rw [gM_t, if_pos rfl]; rfl
            · rw [s2 z] at hK
              refine hK _ ⟨?_, ?_, ?_, fun z => absurd z (show ¬ (2 : Int32) = 1 by decide)⟩ (frR_t df (by omega))
              · rw [gM_t, if_neg (by omega)]; exact d2
              · rw [gM_t, if_neg (by omega)]; exact d3
              · rw [gM_t, if_pos rfl]; rfl
      · rw [if_pos q] at hs
        exact ih (i + 1) _ (by omega) hs (by rw [gM_t, if_pos rfl]) (frR_t hf (by omega))
  exact key (n - e) e _ (by omega) rfl (by rw [gM_t, if_pos rfl]) (frR_t (frR_rf h) (by omega))
