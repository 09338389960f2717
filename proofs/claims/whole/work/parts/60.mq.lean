/-! ===== the model's calls that look ahead ===== -/
theorem isA82 : isA 82 := Or.inr (Or.inr (Or.inr rfl))
theorem isA81 : isA 81 := Or.inr (Or.inr (Or.inl rfl))
theorem isA80 : isA 80 := Or.inr (Or.inl rfl)
theorem isA79 : isA 79 := Or.inl rfl
/-- nothing but the model's HEIRS and the array `now` has changed -/
def frW (h h' : AH) : Prop := (∀ c k, ¬ isM c k → c ≠ 82 → gI h' c k = gI h c k) ∧ ∀ c k, gJ h' c k = gJ h c k
theorem frW_M {h h' : AH} (p : frM h h') : frW h h' := ⟨fun c k hc _ => p.1 c k hc, p.2⟩
theorem frW_k {h h' : AH} (p1 : ∀ c' k, c' ≠ 82 → gI h' c' k = gI h c' k) (p2 : ∀ c' k, gJ h' c' k = gJ h c' k) : frW h h' := ⟨fun c k _ hc => p1 c k hc, p2⟩
theorem frW_tr {h h' h'' : AH} (p1 : frW h h') (p2 : frW h' h'') : frW h h'' := ⟨fun c k hc h2 => (p2.1 c k hc h2).trans (p1.1 c k hc h2), fun c k => (p2.2 c k).trans (p1.2 c k)⟩
theorem frQ_W {h h' : AH} (p : frW h h') : frQ h h' := ⟨fun c k hc => p.1 c k (fun z => hc (by unfold isM at z; unfold isQ; omega)) (fun z => hc (by unfold isQ; omega)), p.2⟩
theorem em_k {h h' : AH} {c : Nat} (hc : isA c) (p1 : ∀ c' k, c' ≠ c → gI h' c' k = gI h c' k) : estM h' = estM h := em_fr (fun c' k q => p1 c' k (by have := isA_b hc; unfold isM at q; omega))
theorem ea_M {h h' : AH} {c : Nat} (hc : isA c) (p : frM h h') : estA h' c = estA h c := ea_fr (fun k => p.1 c k (by have := isA_b hc; unfold isM; omega))
def okZ (E : ES) : Prop := ∃ T, T ≤ 1000000000 ∧ goodE T E
theorem okZ_o {E : ES} (h : okZ E) : okE E := by obtain ⟨T, -, q⟩ := h; exact q.1
theorem okZ_p {E : ES} (h : okZ E) : okZ (passE E).1 := by obtain ⟨T, h1, q⟩ := h; exact ⟨T, h1, good_passE h1 q⟩
theorem okZ_0 {E : ES} (h : okZ E) : (0 < eS E 0) = ¬ eS E 0 = 0 := by
  obtain ⟨T, -, q⟩ := h
  have := inv_0 q.2.2
  refine propext ⟨fun z y => ?_, fun z => ?_⟩
  · rw [y] at z; exact absurd z (by decide)
  · rw [lt_ti, ti_0]
    have : (eS E 0).toInt ≠ 0 := fun y => z (by rw [← Int32.toInt_inj, y]; decide)
    omega
theorem okM_B {G : GV} (h : okM G) : okZ (vE G) := by obtain ⟨T, h1, q⟩ := h; exact ⟨T, by omega, q.1⟩
def P_X6_outs : Sp0T := fun as h K => match as with
  | [.ref x] => x = 64 ∧ okZ (estM h) ∧ ∀ h', estM h' = estM h → frW h h' → K (some (.int (outI (estM h)))) h'
  | _ => False
def S_X6_outs : SpT := lift P_X6_outs
def L_X6_outs_37 : List Item := (37, .aload_n 0, [], nS) :: (38, .aload_n 0, [], nS) :: (39, .getfield 62, [6, 25, 1], nS) :: (42, .invokevirtual 184, [1, 6, 0, 0], S_X6_again) :: (45, .iload_n 1, [], nS) :: (46, .ireturn, [], nS) :: []
def L_X6_outs_10 : List Item := (10, .iload_n 1, [], nS) :: (11, .sipush 200, [], nS) :: (14, .if_icmp .gt 23, [37], nS) :: (17, .aload_n 0, [], nS) :: (18, .getfield 7, [6, 0, 1], nS) :: (21, .iconst 0, [], nS) :: (22, .iaload, [], nS) :: (23, .ifCond .le 14, [37], nS) :: (26, .aload_n 0, [], nS) :: (27, .invokevirtual 211, [0, 6, 0, 0], S_X6_passes) :: (30, .pop, [], nS) :: (31, .iinc 1 1, [], nS) :: (34, .goto (-24), [10], nS) :: L_X6_outs_37
def L_X6_outs_0 : List Item := (0, .aload_n 0, [], nS) :: (1, .aload_n 0, [], nS) :: (2, .getfield 62, [6, 25, 1], nS) :: (5, .invokevirtual 176, [1, 6, 0, 0], S_X6_keep) :: (8, .iconst 0, [], nS) :: (9, .istore_n 1, [], nS) :: (10, .nop, [], nS) :: L_X6_outs_10
def L_X6_outs : List Item := L_X6_outs_0
theorem ok_X6_outs : okB cX6_outs L_X6_outs = true := by decide +kernel
theorem lk_X6_outs (l : Launch) : LKs l RX6 4 false L_X6_outs := ⟨trivial, trivial, ⟨_, _, _, rfl, ⟨(RX6, TX6, 26), rfl, by decide, gT_of (List.mem_of_getElem? (i := 943) (by decide +kernel)) rfl⟩, rfl⟩, ⟨_, _, _, _, _, _, _, _, _, rfl, c_X6_keep l, Or.inl ⟨by decide, yv_X6_keep⟩, by decide, gT_of (List.mem_of_getElem? (i := 1098) (by decide +kernel)) rfl⟩, trivial, trivial, trivial, trivial, trivial, trivial, trivial, ⟨_, _, _, rfl, ⟨(RX6, TX6, 26), rfl, by decide, gT_of (List.mem_of_getElem? (i := 918) (by decide +kernel)) rfl⟩, rfl⟩, trivial, trivial, trivial, trivial, ⟨_, _, _, _, _, _, _, _, _, rfl, c_X6_passes l, Or.inl ⟨by decide, yv_X6_passes⟩, by decide, gT_of (List.mem_of_getElem? (i := 1180) (by decide +kernel)) rfl⟩, trivial, trivial, trivial, trivial, trivial, ⟨_, _, _, rfl, ⟨(RX6, TX6, 26), rfl, by decide, gT_of (List.mem_of_getElem? (i := 943) (by decide +kernel)) rfl⟩, rfl⟩, ⟨_, _, _, _, _, _, _, _, _, rfl, c_X6_again l, Or.inl ⟨by decide, yv_X6_again⟩, by decide, gT_of (List.mem_of_getElem? (i := 1141) (by decide +kernel)) rfl⟩, trivial, trivial, trivial⟩
theorem b_X6_outs_0 : atL L_X6_outs 0 = L_X6_outs_0 := rfl
theorem b_X6_outs_10 : atL L_X6_outs 10 = L_X6_outs_10 := rfl
theorem b_X6_outs_37 : atL L_X6_outs 37 = L_X6_outs_37 := rfl
theorem a_X6_outs_37 : afw L_X6_outs [10] 37 = L_X6_outs_37 := rfl
theorem a_X6_outs_10 : afw L_X6_outs [10] 10 = [] := rfl
theorem yv_X6_outs : YV yX6_outs cX6_outs 2 (some .int) 0 6 := ⟨⟨gT_of (List.mem_of_getElem? (i := 1212) (by decide +kernel)) rfl, gT_of (List.mem_of_getElem? (i := 74) (by decide +kernel)) rfl, ⟨by decide, by decide⟩, by decide +kernel, by decide⟩, gT_of (List.mem_of_getElem? (i := 1211) (by decide +kernel)) rfl, gT_of (List.mem_of_getElem? (i := 50) (by decide +kernel)) rfl, rfl⟩
theorem u_X6_outs_0 : L_X6_outs_0 = (0, .aload_n 0, [], nS) :: (1, .aload_n 0, [], nS) :: (2, .getfield 62, [6, 25, 1], nS) :: (5, .invokevirtual 176, [1, 6, 0, 0], S_X6_keep) :: (8, .iconst 0, [], nS) :: (9, .istore_n 1, [], nS) :: (10, .nop, [], nS) :: L_X6_outs_10 := nr rfl
theorem u_X6_outs_10 : L_X6_outs_10 = (10, .iload_n 1, [], nS) :: (11, .sipush 200, [], nS) :: (14, .if_icmp .gt 23, [37], nS) :: (17, .aload_n 0, [], nS) :: (18, .getfield 7, [6, 0, 1], nS) :: (21, .iconst 0, [], nS) :: (22, .iaload, [], nS) :: (23, .ifCond .le 14, [37], nS) :: (26, .aload_n 0, [], nS) :: (27, .invokevirtual 211, [0, 6, 0, 0], S_X6_passes) :: (30, .pop, [], nS) :: (31, .iinc 1 1, [], nS) :: (34, .goto (-24), [10], nS) :: L_X6_outs_37 := nr rfl
theorem u_X6_outs_37 : L_X6_outs_37 = (37, .aload_n 0, [], nS) :: (38, .aload_n 0, [], nS) :: (39, .getfield 62, [6, 25, 1], nS) :: (42, .invokevirtual 184, [1, 6, 0, 0], S_X6_again) :: (45, .iload_n 1, [], nS) :: (46, .ireturn, [], nS) :: [] := nr rfl
theorem z_X6_outs_0 : atL L_X6_outs 0 = L_X6_outs_0 := nr rfl
theorem z_X6_outs_10 : atL L_X6_outs 10 = L_X6_outs_10 := nr rfl
theorem z_X6_outs_37 : atL L_X6_outs 37 = L_X6_outs_37 := nr rfl
theorem j_X6_outs_37 {G : List Item → SpS → List Value → List Value → AH → Prop} {J : Nat → SpS → List Value → List Value → AH → Prop} {S : SpS} {lv st : List Value} {h : AH} : jmp G J (afw L_X6_outs [10] 37) 37 S lv st h = G L_X6_outs_37 S lv st h := nr rfl
theorem j_X6_outs_10 {G : List Item → SpS → List Value → List Value → AH → Prop} {J : Nat → SpS → List Value → List Value → AH → Prop} {S : SpS} {lv st : List Value} {h : AH} : jmp G J (afw L_X6_outs [10] 10) 10 S lv st h = J 10 S lv st h := nr rfl
theorem e_X6_outs {x : Addr} {h : AH} {K2 : Option Value → SpS → AH → Prop} : S_X6_outs SH0 [.ref x] h K2 = (fun (K : Option Value → AH → Prop) => x = 64 ∧ okZ (estM h) ∧ ∀ h', estM h' = estM h → frW h h' → K (some (.int (outI (estM h)))) h') (fun v h' => K2 v SH0 h') := (lift_e P_X6_outs [.ref x] h K2).trans (nr rfl)
set_option maxRecDepth 100000 in
set_option maxHeartbeats 4000000 in
theorem c_X6_outs (l : Launch) : Ct l yX6_outs cX6_outs 2 (some .int) 4 0 0 S_X6_outs := by
  refine Ct0_mk L_X6_outs [10] (by decide +kernel) (by decide) ok_X6_outs (lk_X6_outs l) ?_
  intro as h K hP
  match as, hP with
  | [.ref x], ⟨hx, hB, hK⟩ =>
  refine ⟨by simp [slotsN, Value.category], fun J hJ => ?_⟩
  subst hx
  unfold outI at hK
  generalize hR : untilE 0 200 (estM h) = R at *
  refine hJ 0 _ _ _ _ ?_
  simp only [z_X6_outs_0, u_X6_outs_0, u_X6_outs_10, u_X6_outs_37, j_X6_outs_10, j_X6_outs_37, ev_aload_n0, ev_getfR, ev_callV1, ev_iconst, ev_istore_n1, ev_nop, ev_iload_n1, ev_sipush, ev_ic_gt, ev_iaload, ev_if_le, ev_callV0, ev_pop_int, ev_pop_ref, ev_iinc1, ev_goto, ev_iret, ro_i, ro_z, ↓e_X6_again, ↓e_X6_keep, ↓e_X6_passes, vq3_0, vq3_1, vq3_2, cq_0, cq_1, cq_2, capO_z, kb_6, kb_7, kb_8, kb_9, kb_10, kb_12, kb_16, kb_20, kb_21, kb_30, kb_32, kb_40, kb_48, kb_50, kb_57, kb_59, kb_60, kb_63, kb_70, kb_78, kb_81, kb_82, kb_84, kb_97, kb_99, kb_100, kb_101, kb_119, kb_120, kb_122, ki_m1, ki_0, ki_1, ki_2, ki_3, ki_4, ki_5, ki_6, ki_7, ki_8, ki_9, ki_10, ki_11, ki_12, ki_13, ki_14, ki_15, ki_16, ki_17, ki_18, ki_19, ki_20, ki_21, ki_22, ki_23, ki_24, ki_25, ki_26, ki_27, ki_28, ki_29, ki_30, ki_31, ki_32, ki_33, ki_34, ki_35, ki_36, ki_37, ki_38, ki_39, ki_40, ki_41, ki_42, ki_43, ki_44, ki_45, ki_46, ki_47, ki_48, ki_49, ki_50, ki_51, ki_52, ki_53, ki_54, ki_55, ki_56, ki_57, ki_58, ki_59, ki_60, ki_61, ki_62, ki_63, ks_m2000, ks_m1006, ks_m1005, ks_m1004, ks_m1003, ks_m1002, ks_m1000, ks_200, ks_250, ks_255, ks_256, ks_320, ks_660, ks_999, ks_1000, ks_9999, ks_12345, ne_2, ne_10, t_0, t_40, t_41, t_42, t_43, t_44, t_45, t_46, t_47, t_64, t_65, t_66, t_67, t_68, t_69, t_70, t_71, t_72, t_73, t_74, t_75, t_76, t_77, t_78, t_79, t_80, t_81, t_82, r_0_0, r_0_1, r_0_2, r_0_4, r_0_5, r_0_6, r_0_7, r_40_0, r_40_5, r_44_0, r_44_1, r_64_0, r_64_1, r_64_3, r_64_4, r_64_5, r_64_6, r_64_7, r_64_8, r_64_9, r_64_12, r_64_17, r_64_18, r_64_19, r_64_20, r_64_22, r_64_23, r_64_24, r_64_25, t_1, t_14, t_27, t_2, t_15, t_28, Nat.reduceEqDiff, ne_eq, not_false_eq_true, false_implies, true_implies, implies_true, Nat.reduceAdd, Nat.reduceLeDiff, Nat.reduceLT, Nat.reduceMul, or_true, true_or, if_true, if_false, not_true_eq_false, and_self, bF, Nat.reduceBEq, Bool.false_and, Bool.and_false, Bool.or_self, Bool.or_false, Bool.false_or, Bool.false_eq_true, Int.reduceAdd, Bool.and_self, Bool.true_and, Bool.and_true, beq_self_eq_true, not_not_, i10_, i01_, List.length_nil, List.length_cons, true_and, and_true, false_and, and_false, kl_i, kl_a, kl_n, kl_l, tl_s, tl_n, rv_S, pd_0, pd_e, pd_r, pd_i, pd_l]
  refine ⟨82, rfl, isA82, okZ_o hB, fun h1 k1 k2 k3 => ?_⟩
  have m1 := em_k isA82 k2
  rw [← m1] at hB
  refine dn (P := fun a => ∀ h', okZ (estM h') → (if a ≤ 200 then untilE a (200 - a) (estM h') else a) = R → frM h1 h' → J 10 SH0 [.ref 64, .int (nI a)] [] h') 201 ?_ (fun a ha ih h' b1 r1 f1 => ?_) h1 hB (by rw [if_pos (by omega), m1]; exact hR) (frM_rf h1)
  · intro h' b1 r1 f1
    refine hJ 10 _ _ _ _ ?_
    simp only [z_X6_outs_10, u_X6_outs_0, u_X6_outs_10, u_X6_outs_37, j_X6_outs_10, j_X6_outs_37, ev_aload_n0, ev_getfR, ev_callV1, ev_iconst, ev_istore_n1, ev_nop, ev_iload_n1, ev_sipush, ev_ic_gt, ev_iaload, ev_if_le, ev_callV0, ev_pop_int, ev_pop_ref, ev_iinc1, ev_goto, ev_iret, ro_i, ro_z, ↓e_X6_again, ↓e_X6_keep, ↓e_X6_passes, vq3_0, vq3_1, vq3_2, cq_0, cq_1, cq_2, capO_z, kb_6, kb_7, kb_8, kb_9, kb_10, kb_12, kb_16, kb_20, kb_21, kb_30, kb_32, kb_40, kb_48, kb_50, kb_57, kb_59, kb_60, kb_63, kb_70, kb_78, kb_81, kb_82, kb_84, kb_97, kb_99, kb_100, kb_101, kb_119, kb_120, kb_122, ki_m1, ki_0, ki_1, ki_2, ki_3, ki_4, ki_5, ki_6, ki_7, ki_8, ki_9, ki_10, ki_11, ki_12, ki_13, ki_14, ki_15, ki_16, ki_17, ki_18, ki_19, ki_20, ki_21, ki_22, ki_23, ki_24, ki_25, ki_26, ki_27, ki_28, ki_29, ki_30, ki_31, ki_32, ki_33, ki_34, ki_35, ki_36, ki_37, ki_38, ki_39, ki_40, ki_41, ki_42, ki_43, ki_44, ki_45, ki_46, ki_47, ki_48, ki_49, ki_50, ki_51, ki_52, ki_53, ki_54, ki_55, ki_56, ki_57, ki_58, ki_59, ki_60, ki_61, ki_62, ki_63, ks_m2000, ks_m1006, ks_m1005, ks_m1004, ks_m1003, ks_m1002, ks_m1000, ks_200, ks_250, ks_255, ks_256, ks_320, ks_660, ks_999, ks_1000, ks_9999, ks_12345, ne_2, ne_10, t_0, t_40, t_41, t_42, t_43, t_44, t_45, t_46, t_47, t_64, t_65, t_66, t_67, t_68, t_69, t_70, t_71, t_72, t_73, t_74, t_75, t_76, t_77, t_78, t_79, t_80, t_81, t_82, r_0_0, r_0_1, r_0_2, r_0_4, r_0_5, r_0_6, r_0_7, r_40_0, r_40_5, r_44_0, r_44_1, r_64_0, r_64_1, r_64_3, r_64_4, r_64_5, r_64_6, r_64_7, r_64_8, r_64_9, r_64_12, r_64_17, r_64_18, r_64_19, r_64_20, r_64_22, r_64_23, r_64_24, r_64_25, t_1, t_14, t_27, t_2, t_15, t_28, Nat.reduceEqDiff, ne_eq, not_false_eq_true, false_implies, true_implies, implies_true, Nat.reduceAdd, Nat.reduceLeDiff, Nat.reduceLT, Nat.reduceMul, or_true, true_or, if_true, if_false, not_true_eq_false, and_self, bF, Nat.reduceBEq, Bool.false_and, Bool.and_false, Bool.or_self, Bool.or_false, Bool.false_or, Bool.false_eq_true, Int.reduceAdd, Bool.and_self, Bool.true_and, Bool.and_true, beq_self_eq_true, not_not_, i10_, i01_, List.length_nil, List.length_cons, true_and, and_true, false_and, and_false, kl_i, kl_a, kl_n, kl_l, tl_s, tl_n, rv_S, pd_0, pd_e, pd_r, pd_i, pd_l, show ((200 : Int32) < nI 201) = True by decide]
    refine ⟨82, rfl, isA82, ?_, fun h2 e2 f2 => ?_⟩
    · rw [ea_M isA82 f1, k1, ← m1]; exact okZ_o hB
    · rw [if_neg (by omega)] at r1
      rw [r1]
      refine hK h2 ?_ (frW_tr (frW_k k2 k3) (frW_M (frM_tr f1 f2)))
      rw [e2, ea_M isA82 f1, k1]
  · have g0 : gI h' 65 0 = eS (estM h') 0 := (em_s (by omega)).symm
    have ex : R = a → okE (estA h' 82) ∧ ∀ h'_1 : AH, estM h'_1 = estA h' 82 → frM h' h'_1 → K (some (.int (nI a))) SH0 h'_1 := by
      intro z
      refine ⟨?_, fun h2 e2 f2 => ?_⟩
      · rw [ea_M isA82 f1, k1, ← m1]; exact okZ_o hB
      · rw [← z]
        refine hK h2 ?_ (frW_tr (frW_k k2 k3) (frW_M (frM_tr f1 f2)))
        rw [e2, ea_M isA82 f1, k1]
    refine hJ 10 _ _ _ _ ?_
    simp only [z_X6_outs_10, u_X6_outs_0, u_X6_outs_10, u_X6_outs_37, j_X6_outs_10, j_X6_outs_37, ev_aload_n0, ev_getfR, ev_callV1, ev_iconst, ev_istore_n1, ev_nop, ev_iload_n1, ev_sipush, ev_ic_gt, ev_iaload, ev_if_le, ev_callV0, ev_pop_int, ev_pop_ref, ev_iinc1, ev_goto, ev_iret, ro_i, ro_z, ↓e_X6_again, ↓e_X6_keep, ↓e_X6_passes, vq3_0, vq3_1, vq3_2, cq_0, cq_1, cq_2, capO_z, kb_6, kb_7, kb_8, kb_9, kb_10, kb_12, kb_16, kb_20, kb_21, kb_30, kb_32, kb_40, kb_48, kb_50, kb_57, kb_59, kb_60, kb_63, kb_70, kb_78, kb_81, kb_82, kb_84, kb_97, kb_99, kb_100, kb_101, kb_119, kb_120, kb_122, ki_m1, ki_0, ki_1, ki_2, ki_3, ki_4, ki_5, ki_6, ki_7, ki_8, ki_9, ki_10, ki_11, ki_12, ki_13, ki_14, ki_15, ki_16, ki_17, ki_18, ki_19, ki_20, ki_21, ki_22, ki_23, ki_24, ki_25, ki_26, ki_27, ki_28, ki_29, ki_30, ki_31, ki_32, ki_33, ki_34, ki_35, ki_36, ki_37, ki_38, ki_39, ki_40, ki_41, ki_42, ki_43, ki_44, ki_45, ki_46, ki_47, ki_48, ki_49, ki_50, ki_51, ki_52, ki_53, ki_54, ki_55, ki_56, ki_57, ki_58, ki_59, ki_60, ki_61, ki_62, ki_63, ks_m2000, ks_m1006, ks_m1005, ks_m1004, ks_m1003, ks_m1002, ks_m1000, ks_200, ks_250, ks_255, ks_256, ks_320, ks_660, ks_999, ks_1000, ks_9999, ks_12345, ne_2, ne_10, t_0, t_40, t_41, t_42, t_43, t_44, t_45, t_46, t_47, t_64, t_65, t_66, t_67, t_68, t_69, t_70, t_71, t_72, t_73, t_74, t_75, t_76, t_77, t_78, t_79, t_80, t_81, t_82, r_0_0, r_0_1, r_0_2, r_0_4, r_0_5, r_0_6, r_0_7, r_40_0, r_40_5, r_44_0, r_44_1, r_64_0, r_64_1, r_64_3, r_64_4, r_64_5, r_64_6, r_64_7, r_64_8, r_64_9, r_64_12, r_64_17, r_64_18, r_64_19, r_64_20, r_64_22, r_64_23, r_64_24, r_64_25, t_1, t_14, t_27, t_2, t_15, t_28, Nat.reduceEqDiff, ne_eq, not_false_eq_true, false_implies, true_implies, implies_true, Nat.reduceAdd, Nat.reduceLeDiff, Nat.reduceLT, Nat.reduceMul, or_true, true_or, if_true, if_false, not_true_eq_false, and_self, bF, Nat.reduceBEq, Bool.false_and, Bool.and_false, Bool.or_self, Bool.or_false, Bool.false_or, Bool.false_eq_true, Int.reduceAdd, Bool.and_self, Bool.true_and, Bool.and_true, beq_self_eq_true, not_not_, i10_, i01_, List.length_nil, List.length_cons, true_and, and_true, false_and, and_false, kl_i, kl_a, kl_n, kl_l, tl_s, tl_n, rv_S, pd_0, pd_e, pd_r, pd_i, pd_l, show ((200 : Int32) < nI a) = False from eq_false (Int32.not_lt.mpr (nI_le (b := 200) (by omega) (by omega))), g0, nI_1]
    rw [if_pos (by omega)] at r1
    have le0 : (eS (estM h') 0 ≤ 0) = (eS (estM h') 0 = 0) := by
      have := okZ_0 b1
      refine propext ⟨fun z => ?_, fun z => by rw [z]; exact Int32.le_refl 0⟩
      by_cases y : eS (estM h') 0 = 0
      · exact y
      · rw [← this] at y; exact absurd z (Int32.not_le.mpr y)
    rw [le0]
    refine ⟨fun q => ⟨82, rfl, isA82, ?_⟩, fun q => ⟨okZ_o b1, fun h2 e2 f2 => ?_⟩⟩
    · refine ex ?_
      rw [← r1]
      by_cases z : a = 200
      · rw [z, Nat.sub_self, untilE_0, if_pos q]
      · rw [show 200 - a = (200 - (a + 1)) + 1 by omega, untilE_s, if_pos q]
    · refine ih h2 (by rw [e2]; exact okZ_p b1) ?_ (frM_tr f1 f2)
      by_cases z : a = 200
      · rw [if_neg (by omega), ← r1, z, Nat.sub_self, untilE_0, if_neg q]
      · rw [if_pos (by omega), ← r1, e2, show 200 - a = (200 - (a + 1)) + 1 by omega, untilE_s, if_neg q]
theorem out_add {u : Nat → Int32} (E : ES) : outI (addU u E) = outI E := by unfold outI; rw [until_add]
theorem sS_me (E : ES) (k : Nat) : sS E k (eS E k) = E := est_ext (fun k' => by
  rw [eS_sS]
  by_cases q : k' = k
  · rw [if_pos q, q]
  · rw [if_neg q]) (fun _ => rfl) (fun _ _ => rfl)
theorem sF_me (E : ES) (i k : Nat) : sF E i k (eF E i k) = E := est_ext (fun _ => rfl) (fun _ => rfl) (fun i' k' => by
  rw [eF_sF]
  by_cases q : i' = i ∧ k' = k
  · rw [if_pos q, q.1, q.2]
  · rw [if_neg q])
theorem sF_sF (E : ES) (i k : Nat) (v v' : Int32) : sF (sF E i k v) i k v' = sF E i k v' := est_ext (fun _ => rfl) (fun _ => rfl) (fun i' k' => by
  rw [eF_sF, eF_sF, eF_sF]
  by_cases q : i' = i ∧ k' = k
  · rw [if_pos q, if_pos q]
  · rw [if_neg q, if_neg q, if_neg q])
theorem supC_0 (E : ES) (j c : Nat) : sS E 2 (nI c) = addU (useU E) (supC E 0 j c) := by
  have e : supC E 0 j c = sS (supE E) 2 (nI c) := if_pos rfl
  rw [e, ← add_sS, ← sup_add]
theorem supC_1 (E : ES) (j c : Nat) : sF E j 0 (nI c) = addU (useU E) (supC E 1 j c) := by
  have e : supC E 1 j c = sF (supE E) j 0 (nI c) := by
    unfold supC
    rw [if_neg (by decide), if_pos rfl]
  rw [e, ← add_sF (by omega), ← sup_add]
theorem supC_2 (E : ES) (j c : Nat) : sF E j 1 (nI c) = addU (useU E) (supC E 2 j c) := by
  have e : supC E 2 j c = sF (supE E) j 1 (nI c) := by
    unfold supC
    rw [if_neg (by decide), if_neg (by decide), if_pos rfl]
  rw [e, ← add_sF (by omega), ← sup_add]
theorem supC_3 (E : ES) (j c : Nat) : sF (sF E c 6 2) c 4 0 = addU (useU E) (supC E 3 j c) := by
  have e : supC E 3 j c = sF (sF (supE E) c 6 2) c 4 0 := by
    unfold supC
    rw [if_neg (by decide), if_neg (by decide), if_neg (by decide)]
  rw [e, ← add_sF (by omega), ← add_sF (by omega), ← sup_add]
theorem okZ_r {E : ES} (h : okZ E) {c : Nat} (hc : c < 3) : okZ (sS E 2 (nI c)) := by
  obtain ⟨T, h1, q⟩ := h
  refine ⟨T, h1, good_sS q (Or.inr (Or.inr ⟨rfl, ?_⟩))⟩
  rcases (show c = 0 ∨ c = 1 ∨ c = 2 by omega) with rfl | rfl | rfl
  · exact Or.inl rfl
  · exact Or.inr (Or.inl rfl)
  · exact Or.inr (Or.inr rfl)
theorem good_sF {T i k : Nat} {E : ES} {v : Int32} (hg : goodE T E) (h1 : k = 0 ∨ k = 3 ∨ k = 5 ∨ k = 6) : goodE T (sF E i k v) :=
  ⟨hg.1, fun j hj => by rw [eF_sF, if_neg (by omega)]; exact hg.2.1 j hj, bnd_sF hg.2.2 (by omega) (by omega)⟩
theorem okZ_f {E : ES} (h : okZ E) {i k : Nat} {v : Int32} (h1 : k = 0 ∨ k = 3 ∨ k = 5 ∨ k = 6) : okZ (sF E i k v) := by
  obtain ⟨T, h2, q⟩ := h
  exact ⟨T, h2, good_sF q h1⟩
theorem sum_add {u : Nat → Int32} {E : ES} {k : Nat} (hk : k ≠ 5) : sumF (addU u E) k = sumF E k := forN_eq (cnt E) (fun i a hi => by rw [eF_add hk])
theorem pN (E : ES) (n : Nat) : passN n E = addU (useU E) (passN n (supE E)) := by
  conv => lhs; rw [sup_add E]
  rw [passN_add]
theorem ag_ok {h h1 h2 : AH} {G : GV} (hE : estM h = vE G) (ho : okE (vE G)) (k1 : estA h1 82 = estM h) (f : frM h1 h2) : okE (estA h2 82) := by rw [ea_M isA82 f, k1, hE]; exact ho
theorem ag_go {h h1 h2 h3 : AH} {G : GV} (hG : simM h G) (k1 : estA h1 82 = estM h) (k2 : ∀ c' k, ¬ c' = 82 → gI h1 c' k = gI h c' k) (k3 : ∀ c' k, gJ h1 c' k = gJ h c' k) (f : frM h1 h2) (e3 : estM h3 = estA h2 82) (f3 : frM h2 h3) : simM h3 G ∧ frY h h3 := by
  have w := frQ_W (frW_tr (frW_k k2 k3) (frW_M (frM_tr f f3)))
  refine ⟨simM_Q hG ?_ w, frY_Q w⟩
  rw [e3, ea_M isA82 f, k1]
  exact hG.1
theorem okZt {h : AH} {G : GV} (hE : estM h = vE G) (hI : okM G) : okZ (estM h) = True := eq_true (by rw [hE]; exact okM_B hI)
def P_X6_out : Sp0T := fun as h K => match as with
  | [.ref x] => x = 64 ∧ XM h (fun G => g_out G) K
  | _ => False
def S_X6_out : SpT := lift P_X6_out
def L_X6_out_17 : List Item := (17, .ireturn, [], nS) :: []
def L_X6_out_16 : List Item := (16, .iload_n 1, [], nS) :: L_X6_out_17
def L_X6_out_0 : List Item := (0, .aload_n 0, [], nS) :: (1, .invokevirtual 231, [0, 6, 0, 0], S_X6_outs) :: (4, .istore_n 1, [], nS) :: (5, .iload_n 1, [], nS) :: (6, .sipush 200, [], nS) :: (9, .if_icmp .le 7, [16], nS) :: (12, .iconst (-1), [], nS) :: (13, .goto 4, [17], nS) :: L_X6_out_16
def L_X6_out : List Item := L_X6_out_0
theorem ok_X6_out : okB cX6_out L_X6_out = true := by decide +kernel
theorem lk_X6_out (l : Launch) : LKs l RX6 5 false L_X6_out := ⟨trivial, ⟨_, _, _, _, _, _, _, _, _, rfl, c_X6_outs l, Or.inl ⟨by decide, yv_X6_outs⟩, by decide, gT_of (List.mem_of_getElem? (i := 1209) (by decide +kernel)) rfl⟩, trivial, trivial, trivial, trivial, trivial, trivial, trivial, trivial, trivial⟩
theorem b_X6_out_0 : atL L_X6_out 0 = L_X6_out_0 := rfl
theorem b_X6_out_16 : atL L_X6_out 16 = L_X6_out_16 := rfl
theorem b_X6_out_17 : atL L_X6_out 17 = L_X6_out_17 := rfl
theorem a_X6_out_16 : afw L_X6_out [] 16 = L_X6_out_16 := rfl
theorem a_X6_out_17 : afw L_X6_out [] 17 = L_X6_out_17 := rfl
theorem yv_X6_out : YV yX6_out cX6_out 2 (some .int) 0 6 := ⟨⟨gT_of (List.mem_of_getElem? (i := 1208) (by decide +kernel)) rfl, gT_of (List.mem_of_getElem? (i := 74) (by decide +kernel)) rfl, ⟨by decide, by decide⟩, by decide +kernel, by decide⟩, gT_of (List.mem_of_getElem? (i := 1206) (by decide +kernel)) rfl, gT_of (List.mem_of_getElem? (i := 1207) (by decide +kernel)) rfl, rfl⟩
theorem u_X6_out_0 : L_X6_out_0 = (0, .aload_n 0, [], nS) :: (1, .invokevirtual 231, [0, 6, 0, 0], S_X6_outs) :: (4, .istore_n 1, [], nS) :: (5, .iload_n 1, [], nS) :: (6, .sipush 200, [], nS) :: (9, .if_icmp .le 7, [16], nS) :: (12, .iconst (-1), [], nS) :: (13, .goto 4, [17], nS) :: L_X6_out_16 := nr rfl
theorem u_X6_out_16 : L_X6_out_16 = (16, .iload_n 1, [], nS) :: L_X6_out_17 := nr rfl
theorem u_X6_out_17 : L_X6_out_17 = (17, .ireturn, [], nS) :: [] := nr rfl
theorem z_X6_out_0 : atL L_X6_out 0 = L_X6_out_0 := nr rfl
theorem z_X6_out_16 : atL L_X6_out 16 = L_X6_out_16 := nr rfl
theorem z_X6_out_17 : atL L_X6_out 17 = L_X6_out_17 := nr rfl
theorem j_X6_out_16 {G : List Item → SpS → List Value → List Value → AH → Prop} {J : Nat → SpS → List Value → List Value → AH → Prop} {S : SpS} {lv st : List Value} {h : AH} : jmp G J (afw L_X6_out [] 16) 16 S lv st h = G L_X6_out_16 S lv st h := nr rfl
theorem j_X6_out_17 {G : List Item → SpS → List Value → List Value → AH → Prop} {J : Nat → SpS → List Value → List Value → AH → Prop} {S : SpS} {lv st : List Value} {h : AH} : jmp G J (afw L_X6_out [] 17) 17 S lv st h = G L_X6_out_17 S lv st h := nr rfl
theorem e_X6_out {x : Addr} {h : AH} {K2 : Option Value → SpS → AH → Prop} : S_X6_out SH0 [.ref x] h K2 = (fun (K : Option Value → AH → Prop) => x = 64 ∧ XM h (fun G => g_out G) K) (fun v h' => K2 v SH0 h') := (lift_e P_X6_out [.ref x] h K2).trans (nr rfl)
set_option maxRecDepth 100000 in
set_option maxHeartbeats 4000000 in
theorem c_X6_out (l : Launch) : Ct l yX6_out cX6_out 2 (some .int) 5 0 0 S_X6_out := by
  refine Ct0_mk L_X6_out [] (by decide +kernel) (by decide) ok_X6_out (lk_X6_out l) ?_
  intro as h K hP
  match as, hP with
  | [.ref x], ⟨hx, G, hG, hI, hK⟩ =>
  refine ⟨by simp [slotsN, Value.category], fun J hJ => ?_⟩
  subst hx
  dsimp only at hK
  have hE : estM h = vE G := hG.1
  have ho := okG_ok (okM_G hI)
  have ho2 := okG_t (okM_G hI)
  have hn : cnt (vE G) ≤ 10 := okG_n (okM_G hI)
  have c4 : gI h 64 2 = nI (cnt (vE G)) := by rw [← hE]; exact em_c (hE ▸ ho)
  unfold g_out at hK
  have e : outI (supE (vE G)) = outI (vE G) := by
    conv => rhs; rw [sup_add (vE G)]
    rw [out_add]
  rw [e] at hK
  refine hJ 0 _ _ _ _ ?_
  simp only [z_X6_out_0, u_X6_out_0, u_X6_out_16, u_X6_out_17, j_X6_out_16, j_X6_out_17, ev_aload_n0, ev_callV0, ev_istore_n1, ev_iload_n1, ev_sipush, ev_ic_le, ev_iconst, ev_goto, ev_iret, ro_i, ro_z, ↓e_X6_outs, vq3_0, vq3_1, vq3_2, cq_0, cq_1, cq_2, capO_z, kb_6, kb_7, kb_8, kb_9, kb_10, kb_12, kb_16, kb_20, kb_21, kb_30, kb_32, kb_40, kb_48, kb_50, kb_57, kb_59, kb_60, kb_63, kb_70, kb_78, kb_81, kb_82, kb_84, kb_97, kb_99, kb_100, kb_101, kb_119, kb_120, kb_122, ki_m1, ki_0, ki_1, ki_2, ki_3, ki_4, ki_5, ki_6, ki_7, ki_8, ki_9, ki_10, ki_11, ki_12, ki_13, ki_14, ki_15, ki_16, ki_17, ki_18, ki_19, ki_20, ki_21, ki_22, ki_23, ki_24, ki_25, ki_26, ki_27, ki_28, ki_29, ki_30, ki_31, ki_32, ki_33, ki_34, ki_35, ki_36, ki_37, ki_38, ki_39, ki_40, ki_41, ki_42, ki_43, ki_44, ki_45, ki_46, ki_47, ki_48, ki_49, ki_50, ki_51, ki_52, ki_53, ki_54, ki_55, ki_56, ki_57, ki_58, ki_59, ki_60, ki_61, ki_62, ki_63, ks_m2000, ks_m1006, ks_m1005, ks_m1004, ks_m1003, ks_m1002, ks_m1000, ks_200, ks_250, ks_255, ks_256, ks_320, ks_660, ks_999, ks_1000, ks_9999, ks_12345, ne_2, ne_10, t_0, t_40, t_41, t_42, t_43, t_44, t_45, t_46, t_47, t_64, t_65, t_66, t_67, t_68, t_69, t_70, t_71, t_72, t_73, t_74, t_75, t_76, t_77, t_78, t_79, t_80, t_81, t_82, r_0_0, r_0_1, r_0_2, r_0_4, r_0_5, r_0_6, r_0_7, r_40_0, r_40_5, r_44_0, r_44_1, r_64_0, r_64_1, r_64_3, r_64_4, r_64_5, r_64_6, r_64_7, r_64_8, r_64_9, r_64_12, r_64_17, r_64_18, r_64_19, r_64_20, r_64_22, r_64_23, r_64_24, r_64_25, t_1, t_14, t_27, t_2, t_15, t_28, Nat.reduceEqDiff, ne_eq, not_false_eq_true, false_implies, true_implies, implies_true, Nat.reduceAdd, Nat.reduceLeDiff, Nat.reduceLT, Nat.reduceMul, or_true, true_or, if_true, if_false, not_true_eq_false, and_self, bF, Nat.reduceBEq, Bool.false_and, Bool.and_false, Bool.or_self, Bool.or_false, Bool.false_or, Bool.false_eq_true, Int.reduceAdd, Bool.and_self, Bool.true_and, Bool.and_true, beq_self_eq_true, not_not_, i10_, i01_, List.length_nil, List.length_cons, true_and, and_true, false_and, and_false, kl_i, kl_a, kl_n, kl_l, tl_s, tl_n, rv_S, pd_0, pd_e, pd_r, pd_i, pd_l, hE]
  refine ⟨okM_B hI, fun h1 e1 w1 => ?_⟩
  replace hK := hK h1 (simM_Q hG e1 (frQ_W w1)) (frY_Q (frQ_W w1))
  refine ⟨fun q => ?_, fun q => ?_⟩
  · rw [if_pos q] at hK; exact hK
  · rw [if_neg q] at hK; exact hK
def P_X6_ahead : Sp0T := fun as h K => match as with
  | [.ref x, .int n, .int w] => x = 64 ∧ XM h (fun G => g_ahead G n w) K
  | _ => False
def S_X6_ahead : SpT := lift P_X6_ahead
def L_X6_ahead_70 : List Item := (70, .istore_n 3, [], nS) :: (71, .aload_n 0, [], nS) :: (72, .aload_n 0, [], nS) :: (73, .getfield 62, [6, 25, 1], nS) :: (76, .invokevirtual 184, [1, 6, 0, 0], S_X6_again) :: (79, .iload_n 3, [], nS) :: (80, .ireturn, [], nS) :: []
def L_X6_ahead_66 : List Item := (66, .aload_n 0, [], nS) :: (67, .invokevirtual 228, [0, 6, 0, 0], S_X6_allHave) :: L_X6_ahead_70
def L_X6_ahead_50 : List Item := (50, .iload_n 2, [], nS) :: (51, .iconst 1, [], nS) :: (52, .if_icmp .ne 14, [66], nS) :: (55, .aload_n 0, [], nS) :: (56, .iconst 1, [], nS) :: (57, .invokevirtual 220, [1, 6, 0, 0], S_X6_areSo) :: (60, .invokestatic 223, [0, 1, 0, 0], S_J6_bitCount_0f7a4) :: (63, .goto 7, [70], nS) :: L_X6_ahead_66
def L_X6_ahead_24 : List Item := (24, .aload_n 0, [], nS) :: (25, .aload_n 0, [], nS) :: (26, .getfield 62, [6, 25, 1], nS) :: (29, .invokevirtual 176, [1, 6, 0, 0], S_X6_keep) :: (32, .aload_n 0, [], nS) :: (33, .iload_n 1, [], nS) :: (34, .invokevirtual 217, [1, 6, 0, 0], S_X6_goesOn) :: (37, .iload_n 2, [], nS) :: (38, .ifCond .ne 12, [50], nS) :: (41, .aload_n 0, [], nS) :: (42, .getfield 7, [6, 0, 1], nS) :: (45, .iconst 0, [], nS) :: (46, .iaload, [], nS) :: (47, .goto 23, [70], nS) :: L_X6_ahead_50
def L_X6_ahead_16 : List Item := (16, .aload_n 0, [], nS) :: (17, .sipush (-1002), [], nS) :: (20, .invokevirtual 82, [1, 6, 0, 0], S_X6_no) :: (23, .ireturn, [], nS) :: L_X6_ahead_24
def L_X6_ahead_0 : List Item := (0, .iload_n 1, [], nS) :: (1, .invokestatic 214, [0, 1, 0, 0], S_X6_isTime) :: (4, .ifCond .eq 12, [16], nS) :: (7, .iload_n 2, [], nS) :: (8, .iconst 0, [], nS) :: (9, .iconst 2, [], nS) :: (10, .invokestatic 72, [0, 3, 0, 0], S_X6_within) :: (13, .ifCond .ne 11, [24], nS) :: L_X6_ahead_16
def L_X6_ahead : List Item := L_X6_ahead_0
theorem ok_X6_ahead : okB cX6_ahead L_X6_ahead = true := by decide +kernel
theorem lk_X6_ahead (l : Launch) : LKs l RX6 5 false L_X6_ahead := ⟨trivial, Or.inl ⟨_, _, _, _, _, _, _, _, rfl, c_X6_isTime l, yv_X6_isTime, by decide, gT_of (List.mem_of_getElem? (i := 1173) (by decide +kernel)) rfl⟩, trivial, trivial, trivial, trivial, Or.inl ⟨_, _, _, _, _, _, _, _, rfl, c_X6_within l, yv_X6_within, by decide, gT_of (List.mem_of_getElem? (i := 1004) (by decide +kernel)) rfl⟩, trivial, trivial, trivial, ⟨_, _, _, _, _, _, _, _, _, rfl, c_X6_no l, Or.inl ⟨by decide, yv_X6_no⟩, by decide, gT_of (List.mem_of_getElem? (i := 1007) (by decide +kernel)) rfl⟩, trivial, trivial, trivial, ⟨_, _, _, rfl, ⟨(RX6, TX6, 26), rfl, by decide, gT_of (List.mem_of_getElem? (i := 943) (by decide +kernel)) rfl⟩, rfl⟩, ⟨_, _, _, _, _, _, _, _, _, rfl, c_X6_keep l, Or.inl ⟨by decide, yv_X6_keep⟩, by decide, gT_of (List.mem_of_getElem? (i := 1098) (by decide +kernel)) rfl⟩, trivial, trivial, ⟨_, _, _, _, _, _, _, _, _, rfl, c_X6_goesOn l, Or.inl ⟨by decide, yv_X6_goesOn⟩, by decide, gT_of (List.mem_of_getElem? (i := 1176) (by decide +kernel)) rfl⟩, trivial, trivial, trivial, ⟨_, _, _, rfl, ⟨(RX6, TX6, 26), rfl, by decide, gT_of (List.mem_of_getElem? (i := 918) (by decide +kernel)) rfl⟩, rfl⟩, trivial, trivial, trivial, trivial, trivial, trivial, trivial, trivial, ⟨_, _, _, _, _, _, _, _, _, rfl, c_X6_areSo l, Or.inl ⟨by decide, yv_X6_areSo⟩, by decide, gT_of (List.mem_of_getElem? (i := 1192) (by decide +kernel)) rfl⟩, Or.inl ⟨_, _, _, _, _, _, _, _, rfl, c_J6_bitCount_0f7a4 l, yv_J6_bitCount_0f7a4, by decide, gT_of (List.mem_of_getElem? (i := 1196) (by decide +kernel)) rfl⟩, trivial, trivial, ⟨_, _, _, _, _, _, _, _, _, rfl, c_X6_allHave l, Or.inl ⟨by decide, yv_X6_allHave⟩, by decide, gT_of (List.mem_of_getElem? (i := 1197) (by decide +kernel)) rfl⟩, trivial, trivial, trivial, ⟨_, _, _, rfl, ⟨(RX6, TX6, 26), rfl, by decide, gT_of (List.mem_of_getElem? (i := 943) (by decide +kernel)) rfl⟩, rfl⟩, ⟨_, _, _, _, _, _, _, _, _, rfl, c_X6_again l, Or.inl ⟨by decide, yv_X6_again⟩, by decide, gT_of (List.mem_of_getElem? (i := 1141) (by decide +kernel)) rfl⟩, trivial, trivial, trivial⟩
theorem b_X6_ahead_0 : atL L_X6_ahead 0 = L_X6_ahead_0 := rfl
theorem b_X6_ahead_16 : atL L_X6_ahead 16 = L_X6_ahead_16 := rfl
theorem b_X6_ahead_24 : atL L_X6_ahead 24 = L_X6_ahead_24 := rfl
theorem b_X6_ahead_50 : atL L_X6_ahead 50 = L_X6_ahead_50 := rfl
theorem b_X6_ahead_66 : atL L_X6_ahead 66 = L_X6_ahead_66 := rfl
theorem b_X6_ahead_70 : atL L_X6_ahead 70 = L_X6_ahead_70 := rfl
theorem a_X6_ahead_16 : afw L_X6_ahead [] 16 = L_X6_ahead_16 := rfl
theorem a_X6_ahead_24 : afw L_X6_ahead [] 24 = L_X6_ahead_24 := rfl
theorem a_X6_ahead_50 : afw L_X6_ahead [] 50 = L_X6_ahead_50 := rfl
theorem a_X6_ahead_66 : afw L_X6_ahead [] 66 = L_X6_ahead_66 := rfl
theorem a_X6_ahead_70 : afw L_X6_ahead [] 70 = L_X6_ahead_70 := rfl
theorem yv_X6_ahead : YV yX6_ahead cX6_ahead 4 (some .int) 2 6 := ⟨⟨gT_of (List.mem_of_getElem? (i := 1172) (by decide +kernel)) rfl, gT_of (List.mem_of_getElem? (i := 74) (by decide +kernel)) rfl, ⟨by decide, by decide⟩, by decide +kernel, by decide⟩, gT_of (List.mem_of_getElem? (i := 1170) (by decide +kernel)) rfl, gT_of (List.mem_of_getElem? (i := 1171) (by decide +kernel)) rfl, rfl⟩
theorem u_X6_ahead_0 : L_X6_ahead_0 = (0, .iload_n 1, [], nS) :: (1, .invokestatic 214, [0, 1, 0, 0], S_X6_isTime) :: (4, .ifCond .eq 12, [16], nS) :: (7, .iload_n 2, [], nS) :: (8, .iconst 0, [], nS) :: (9, .iconst 2, [], nS) :: (10, .invokestatic 72, [0, 3, 0, 0], S_X6_within) :: (13, .ifCond .ne 11, [24], nS) :: L_X6_ahead_16 := nr rfl
theorem u_X6_ahead_16 : L_X6_ahead_16 = (16, .aload_n 0, [], nS) :: (17, .sipush (-1002), [], nS) :: (20, .invokevirtual 82, [1, 6, 0, 0], S_X6_no) :: (23, .ireturn, [], nS) :: L_X6_ahead_24 := nr rfl
theorem u_X6_ahead_24 : L_X6_ahead_24 = (24, .aload_n 0, [], nS) :: (25, .aload_n 0, [], nS) :: (26, .getfield 62, [6, 25, 1], nS) :: (29, .invokevirtual 176, [1, 6, 0, 0], S_X6_keep) :: (32, .aload_n 0, [], nS) :: (33, .iload_n 1, [], nS) :: (34, .invokevirtual 217, [1, 6, 0, 0], S_X6_goesOn) :: (37, .iload_n 2, [], nS) :: (38, .ifCond .ne 12, [50], nS) :: (41, .aload_n 0, [], nS) :: (42, .getfield 7, [6, 0, 1], nS) :: (45, .iconst 0, [], nS) :: (46, .iaload, [], nS) :: (47, .goto 23, [70], nS) :: L_X6_ahead_50 := nr rfl
theorem u_X6_ahead_50 : L_X6_ahead_50 = (50, .iload_n 2, [], nS) :: (51, .iconst 1, [], nS) :: (52, .if_icmp .ne 14, [66], nS) :: (55, .aload_n 0, [], nS) :: (56, .iconst 1, [], nS) :: (57, .invokevirtual 220, [1, 6, 0, 0], S_X6_areSo) :: (60, .invokestatic 223, [0, 1, 0, 0], S_J6_bitCount_0f7a4) :: (63, .goto 7, [70], nS) :: L_X6_ahead_66 := nr rfl
theorem u_X6_ahead_66 : L_X6_ahead_66 = (66, .aload_n 0, [], nS) :: (67, .invokevirtual 228, [0, 6, 0, 0], S_X6_allHave) :: L_X6_ahead_70 := nr rfl
theorem u_X6_ahead_70 : L_X6_ahead_70 = (70, .istore_n 3, [], nS) :: (71, .aload_n 0, [], nS) :: (72, .aload_n 0, [], nS) :: (73, .getfield 62, [6, 25, 1], nS) :: (76, .invokevirtual 184, [1, 6, 0, 0], S_X6_again) :: (79, .iload_n 3, [], nS) :: (80, .ireturn, [], nS) :: [] := nr rfl
theorem z_X6_ahead_0 : atL L_X6_ahead 0 = L_X6_ahead_0 := nr rfl
theorem z_X6_ahead_16 : atL L_X6_ahead 16 = L_X6_ahead_16 := nr rfl
theorem z_X6_ahead_24 : atL L_X6_ahead 24 = L_X6_ahead_24 := nr rfl
theorem z_X6_ahead_50 : atL L_X6_ahead 50 = L_X6_ahead_50 := nr rfl
theorem z_X6_ahead_66 : atL L_X6_ahead 66 = L_X6_ahead_66 := nr rfl
theorem z_X6_ahead_70 : atL L_X6_ahead 70 = L_X6_ahead_70 := nr rfl
theorem j_X6_ahead_16 {G : List Item → SpS → List Value → List Value → AH → Prop} {J : Nat → SpS → List Value → List Value → AH → Prop} {S : SpS} {lv st : List Value} {h : AH} : jmp G J (afw L_X6_ahead [] 16) 16 S lv st h = G L_X6_ahead_16 S lv st h := nr rfl
theorem j_X6_ahead_24 {G : List Item → SpS → List Value → List Value → AH → Prop} {J : Nat → SpS → List Value → List Value → AH → Prop} {S : SpS} {lv st : List Value} {h : AH} : jmp G J (afw L_X6_ahead [] 24) 24 S lv st h = G L_X6_ahead_24 S lv st h := nr rfl
theorem j_X6_ahead_50 {G : List Item → SpS → List Value → List Value → AH → Prop} {J : Nat → SpS → List Value → List Value → AH → Prop} {S : SpS} {lv st : List Value} {h : AH} : jmp G J (afw L_X6_ahead [] 50) 50 S lv st h = G L_X6_ahead_50 S lv st h := nr rfl
theorem j_X6_ahead_66 {G : List Item → SpS → List Value → List Value → AH → Prop} {J : Nat → SpS → List Value → List Value → AH → Prop} {S : SpS} {lv st : List Value} {h : AH} : jmp G J (afw L_X6_ahead [] 66) 66 S lv st h = G L_X6_ahead_66 S lv st h := nr rfl
theorem j_X6_ahead_70 {G : List Item → SpS → List Value → List Value → AH → Prop} {J : Nat → SpS → List Value → List Value → AH → Prop} {S : SpS} {lv st : List Value} {h : AH} : jmp G J (afw L_X6_ahead [] 70) 70 S lv st h = G L_X6_ahead_70 S lv st h := nr rfl
theorem e_X6_ahead {x : Addr} {n : Int32} {w : Int32} {h : AH} {K2 : Option Value → SpS → AH → Prop} : S_X6_ahead SH0 [.ref x, .int n, .int w] h K2 = (fun (K : Option Value → AH → Prop) => x = 64 ∧ XM h (fun G => g_ahead G n w) K) (fun v h' => K2 v SH0 h') := (lift_e P_X6_ahead [.ref x, .int n, .int w] h K2).trans (nr rfl)
set_option maxRecDepth 100000 in
set_option maxHeartbeats 4000000 in
theorem c_X6_ahead (l : Launch) : Ct l yX6_ahead cX6_ahead 4 (some .int) 5 0 0 S_X6_ahead := by
  refine Ct0_mk L_X6_ahead [] (by decide +kernel) (by decide) ok_X6_ahead (lk_X6_ahead l) ?_
  intro as h K hP
  match as, hP with
  | [.ref x, .int n, .int w], ⟨hx, G, hG, hI, hK⟩ =>
  refine ⟨by simp [slotsN, Value.category], fun J hJ => ?_⟩
  subst hx
  dsimp only at hK
  have hE : estM h = vE G := hG.1
  have ho := okG_ok (okM_G hI)
  have ho2 := okG_t (okM_G hI)
  have hn : cnt (vE G) ≤ 10 := okG_n (okM_G hI)
  have c4 : gI h 64 2 = nI (cnt (vE G)) := by rw [← hE]; exact em_c (hE ▸ ho)
  by_cases hh : inI n 200
  · by_cases hh2 : inI w 2
    · simp only [g_ahead, if_pos (And.intro hh hh2)] at hK
      obtain ⟨m, hm, rfl⟩ := in_of (m := 200) (by omega) hh
      rw [ix_m (j := m) (by omega)] at hK
      refine hJ 0 _ _ _ _ ?_
      simp only [z_X6_ahead_0, u_X6_ahead_0, u_X6_ahead_16, u_X6_ahead_24, u_X6_ahead_50, u_X6_ahead_66, u_X6_ahead_70, j_X6_ahead_16, j_X6_ahead_24, j_X6_ahead_50, j_X6_ahead_66, j_X6_ahead_70, ev_iload_n1, ev_callS1, ev_if_eq, ev_iload_n2, ev_iconst, ev_callS3, ev_if_ne, ev_aload_n0, ev_sipush, ev_callV1, ev_iret, ro_i, ro_z, ev_getfR, ev_iaload, ev_goto, ev_ic_ne, ev_callV0, ev_istore_n3, ev_iload_n3, ↓e_J6_bitCount_0f7a4, ↓e_X6_again, ↓e_X6_allHave, ↓e_X6_areSo, ↓e_X6_goesOn, ↓e_X6_isTime, ↓e_X6_keep, ↓e_X6_no, ↓e_X6_within, vq3_0, vq3_1, vq3_2, cq_0, cq_1, cq_2, capO_z, kb_6, kb_7, kb_8, kb_9, kb_10, kb_12, kb_16, kb_20, kb_21, kb_30, kb_32, kb_40, kb_48, kb_50, kb_57, kb_59, kb_60, kb_63, kb_70, kb_78, kb_81, kb_82, kb_84, kb_97, kb_99, kb_100, kb_101, kb_119, kb_120, kb_122, ki_m1, ki_0, ki_1, ki_2, ki_3, ki_4, ki_5, ki_6, ki_7, ki_8, ki_9, ki_10, ki_11, ki_12, ki_13, ki_14, ki_15, ki_16, ki_17, ki_18, ki_19, ki_20, ki_21, ki_22, ki_23, ki_24, ki_25, ki_26, ki_27, ki_28, ki_29, ki_30, ki_31, ki_32, ki_33, ki_34, ki_35, ki_36, ki_37, ki_38, ki_39, ki_40, ki_41, ki_42, ki_43, ki_44, ki_45, ki_46, ki_47, ki_48, ki_49, ki_50, ki_51, ki_52, ki_53, ki_54, ki_55, ki_56, ki_57, ki_58, ki_59, ki_60, ki_61, ki_62, ki_63, ks_m2000, ks_m1006, ks_m1005, ks_m1004, ks_m1003, ks_m1002, ks_m1000, ks_200, ks_250, ks_255, ks_256, ks_320, ks_660, ks_999, ks_1000, ks_9999, ks_12345, ne_2, ne_10, t_0, t_40, t_41, t_42, t_43, t_44, t_45, t_46, t_47, t_64, t_65, t_66, t_67, t_68, t_69, t_70, t_71, t_72, t_73, t_74, t_75, t_76, t_77, t_78, t_79, t_80, t_81, t_82, r_0_0, r_0_1, r_0_2, r_0_4, r_0_5, r_0_6, r_0_7, r_40_0, r_40_5, r_44_0, r_44_1, r_64_0, r_64_1, r_64_3, r_64_4, r_64_5, r_64_6, r_64_7, r_64_8, r_64_9, r_64_12, r_64_17, r_64_18, r_64_19, r_64_20, r_64_22, r_64_23, r_64_24, r_64_25, t_1, t_14, t_27, t_2, t_15, t_28, Nat.reduceEqDiff, ne_eq, not_false_eq_true, false_implies, true_implies, implies_true, Nat.reduceAdd, Nat.reduceLeDiff, Nat.reduceLT, Nat.reduceMul, or_true, true_or, if_true, if_false, not_true_eq_false, and_self, bF, Nat.reduceBEq, Bool.false_and, Bool.and_false, Bool.or_self, Bool.or_false, Bool.false_or, Bool.false_eq_true, Int.reduceAdd, Bool.and_self, Bool.true_and, Bool.and_true, beq_self_eq_true, not_not_, i10_, i01_, List.length_nil, List.length_cons, true_and, and_true, false_and, and_false, kl_i, kl_a, kl_n, kl_l, tl_s, tl_n, rv_S, pd_0, pd_e, pd_r, pd_i, pd_l, b2i_t hh, b2i_t hh2, one_z]
      refine ⟨82, rfl, isA82, by rw [hE]; exact ho, fun h1 k1 k2 k3 => ?_⟩
      have m1 := (em_k isA82 k2).trans hE
      refine ⟨by rw [m1]; exact ho, m, hm, rfl, fun h2 e2 f2 => ?_⟩
      rw [m1] at e2
      have o2 : okE (estM h2) := by rw [e2]; exact sameE_ok (same_passN m _) ho
      have ga := ag_ok hE ho k1 f2
      have fin : ∀ h3, estM h3 = estA h2 82 → frM h2 h3 → K (some (.int (aheadE (vE G) m w))) SH0 h3 := fun h3 e3 f3 => by
        obtain ⟨s3, y3⟩ := ag_go hG k1 k2 k3 f2 e3 f3
        exact hK h3 s3 y3
      unfold aheadE at fin
      refine ⟨fun q => ⟨fun q2 => ⟨o2, 82, rfl, isA82, ga, ?_⟩, fun q2 => ⟨o2, 82, rfl, isA82, ga, ?_⟩⟩, fun q => ⟨82, rfl, isA82, ga, ?_⟩⟩
      · rw [if_neg q, if_neg q2] at fin
        rw [e2, pN, sum_add (by omega)]; exact fin
      · rw [if_neg q, if_pos q2] at fin
        rw [pop_so 1 o2.2.1, e2, pN, are_add]; exact fin
      · rw [if_pos q] at fin
        rw [← em_s (h := h2) (k := 0) (by omega), e2, pN, eS_add]; exact fin
    · simp only [g_ahead, if_neg (fun z : inI n 200 ∧ inI w 2 => hh2 z.2), noG] at hK
      refine hJ 0 _ _ _ _ ?_
      simp only [z_X6_ahead_0, u_X6_ahead_0, u_X6_ahead_16, u_X6_ahead_24, u_X6_ahead_50, u_X6_ahead_66, u_X6_ahead_70, j_X6_ahead_16, j_X6_ahead_24, j_X6_ahead_50, j_X6_ahead_66, j_X6_ahead_70, ev_iload_n1, ev_callS1, ev_if_eq, ev_iload_n2, ev_iconst, ev_callS3, ev_if_ne, ev_aload_n0, ev_sipush, ev_callV1, ev_iret, ro_i, ro_z, ev_getfR, ev_iaload, ev_goto, ev_ic_ne, ev_callV0, ev_istore_n3, ev_iload_n3, ↓e_J6_bitCount_0f7a4, ↓e_X6_again, ↓e_X6_allHave, ↓e_X6_areSo, ↓e_X6_goesOn, ↓e_X6_isTime, ↓e_X6_keep, ↓e_X6_no, ↓e_X6_within, vq3_0, vq3_1, vq3_2, cq_0, cq_1, cq_2, capO_z, kb_6, kb_7, kb_8, kb_9, kb_10, kb_12, kb_16, kb_20, kb_21, kb_30, kb_32, kb_40, kb_48, kb_50, kb_57, kb_59, kb_60, kb_63, kb_70, kb_78, kb_81, kb_82, kb_84, kb_97, kb_99, kb_100, kb_101, kb_119, kb_120, kb_122, ki_m1, ki_0, ki_1, ki_2, ki_3, ki_4, ki_5, ki_6, ki_7, ki_8, ki_9, ki_10, ki_11, ki_12, ki_13, ki_14, ki_15, ki_16, ki_17, ki_18, ki_19, ki_20, ki_21, ki_22, ki_23, ki_24, ki_25, ki_26, ki_27, ki_28, ki_29, ki_30, ki_31, ki_32, ki_33, ki_34, ki_35, ki_36, ki_37, ki_38, ki_39, ki_40, ki_41, ki_42, ki_43, ki_44, ki_45, ki_46, ki_47, ki_48, ki_49, ki_50, ki_51, ki_52, ki_53, ki_54, ki_55, ki_56, ki_57, ki_58, ki_59, ki_60, ki_61, ki_62, ki_63, ks_m2000, ks_m1006, ks_m1005, ks_m1004, ks_m1003, ks_m1002, ks_m1000, ks_200, ks_250, ks_255, ks_256, ks_320, ks_660, ks_999, ks_1000, ks_9999, ks_12345, ne_2, ne_10, t_0, t_40, t_41, t_42, t_43, t_44, t_45, t_46, t_47, t_64, t_65, t_66, t_67, t_68, t_69, t_70, t_71, t_72, t_73, t_74, t_75, t_76, t_77, t_78, t_79, t_80, t_81, t_82, r_0_0, r_0_1, r_0_2, r_0_4, r_0_5, r_0_6, r_0_7, r_40_0, r_40_5, r_44_0, r_44_1, r_64_0, r_64_1, r_64_3, r_64_4, r_64_5, r_64_6, r_64_7, r_64_8, r_64_9, r_64_12, r_64_17, r_64_18, r_64_19, r_64_20, r_64_22, r_64_23, r_64_24, r_64_25, t_1, t_14, t_27, t_2, t_15, t_28, Nat.reduceEqDiff, ne_eq, not_false_eq_true, false_implies, true_implies, implies_true, Nat.reduceAdd, Nat.reduceLeDiff, Nat.reduceLT, Nat.reduceMul, or_true, true_or, if_true, if_false, not_true_eq_false, and_self, bF, Nat.reduceBEq, Bool.false_and, Bool.and_false, Bool.or_self, Bool.or_false, Bool.false_or, Bool.false_eq_true, Int.reduceAdd, Bool.and_self, Bool.true_and, Bool.and_true, beq_self_eq_true, not_not_, i10_, i01_, List.length_nil, List.length_cons, true_and, and_true, false_and, and_false, kl_i, kl_a, kl_n, kl_l, tl_s, tl_n, rv_S, pd_0, pd_e, pd_r, pd_i, pd_l, b2i_t hh, b2i_f hh2, one_z, zero_z, ic_2]
      exact hK _ (simM_ref hI hG kc2) (frY_ref h _)
  · simp only [g_ahead, if_neg (fun z : inI n 200 ∧ inI w 2 => hh z.1), noG] at hK
    refine hJ 0 _ _ _ _ ?_
    simp only [z_X6_ahead_0, u_X6_ahead_0, u_X6_ahead_16, u_X6_ahead_24, u_X6_ahead_50, u_X6_ahead_66, u_X6_ahead_70, j_X6_ahead_16, j_X6_ahead_24, j_X6_ahead_50, j_X6_ahead_66, j_X6_ahead_70, ev_iload_n1, ev_callS1, ev_if_eq, ev_iload_n2, ev_iconst, ev_callS3, ev_if_ne, ev_aload_n0, ev_sipush, ev_callV1, ev_iret, ro_i, ro_z, ev_getfR, ev_iaload, ev_goto, ev_ic_ne, ev_callV0, ev_istore_n3, ev_iload_n3, ↓e_J6_bitCount_0f7a4, ↓e_X6_again, ↓e_X6_allHave, ↓e_X6_areSo, ↓e_X6_goesOn, ↓e_X6_isTime, ↓e_X6_keep, ↓e_X6_no, ↓e_X6_within, vq3_0, vq3_1, vq3_2, cq_0, cq_1, cq_2, capO_z, kb_6, kb_7, kb_8, kb_9, kb_10, kb_12, kb_16, kb_20, kb_21, kb_30, kb_32, kb_40, kb_48, kb_50, kb_57, kb_59, kb_60, kb_63, kb_70, kb_78, kb_81, kb_82, kb_84, kb_97, kb_99, kb_100, kb_101, kb_119, kb_120, kb_122, ki_m1, ki_0, ki_1, ki_2, ki_3, ki_4, ki_5, ki_6, ki_7, ki_8, ki_9, ki_10, ki_11, ki_12, ki_13, ki_14, ki_15, ki_16, ki_17, ki_18, ki_19, ki_20, ki_21, ki_22, ki_23, ki_24, ki_25, ki_26, ki_27, ki_28, ki_29, ki_30, ki_31, ki_32, ki_33, ki_34, ki_35, ki_36, ki_37, ki_38, ki_39, ki_40, ki_41, ki_42, ki_43, ki_44, ki_45, ki_46, ki_47, ki_48, ki_49, ki_50, ki_51, ki_52, ki_53, ki_54, ki_55, ki_56, ki_57, ki_58, ki_59, ki_60, ki_61, ki_62, ki_63, ks_m2000, ks_m1006, ks_m1005, ks_m1004, ks_m1003, ks_m1002, ks_m1000, ks_200, ks_250, ks_255, ks_256, ks_320, ks_660, ks_999, ks_1000, ks_9999, ks_12345, ne_2, ne_10, t_0, t_40, t_41, t_42, t_43, t_44, t_45, t_46, t_47, t_64, t_65, t_66, t_67, t_68, t_69, t_70, t_71, t_72, t_73, t_74, t_75, t_76, t_77, t_78, t_79, t_80, t_81, t_82, r_0_0, r_0_1, r_0_2, r_0_4, r_0_5, r_0_6, r_0_7, r_40_0, r_40_5, r_44_0, r_44_1, r_64_0, r_64_1, r_64_3, r_64_4, r_64_5, r_64_6, r_64_7, r_64_8, r_64_9, r_64_12, r_64_17, r_64_18, r_64_19, r_64_20, r_64_22, r_64_23, r_64_24, r_64_25, t_1, t_14, t_27, t_2, t_15, t_28, Nat.reduceEqDiff, ne_eq, not_false_eq_true, false_implies, true_implies, implies_true, Nat.reduceAdd, Nat.reduceLeDiff, Nat.reduceLT, Nat.reduceMul, or_true, true_or, if_true, if_false, not_true_eq_false, and_self, bF, Nat.reduceBEq, Bool.false_and, Bool.and_false, Bool.or_self, Bool.or_false, Bool.false_or, Bool.false_eq_true, Int.reduceAdd, Bool.and_self, Bool.true_and, Bool.and_true, beq_self_eq_true, not_not_, i10_, i01_, List.length_nil, List.length_cons, true_and, and_true, false_and, and_false, kl_i, kl_a, kl_n, kl_l, tl_s, tl_n, rv_S, pd_0, pd_e, pd_r, pd_i, pd_l, b2i_f hh, zero_z, ic_2]
    exact hK _ (simM_ref hI hG kc2) (frY_ref h _)
def P_X6_later : Sp0T := fun as h K => match as with
  | [.ref x, .int i, .int n, .int w] => x = 64 ∧ XM h (fun G => g_later G i n w) K
  | _ => False
def S_X6_later : SpT := lift P_X6_later
def L_X6_later_89 : List Item := (89, .istore 5, [], nS) :: (91, .aload_n 0, [], nS) :: (92, .aload_n 0, [], nS) :: (93, .getfield 62, [6, 25, 1], nS) :: (96, .invokevirtual 184, [1, 6, 0, 0], S_X6_again) :: (99, .iload 5, [], nS) :: (101, .ireturn, [], nS) :: []
def L_X6_later_83 : List Item := (83, .aload_n 0, [], nS) :: (84, .getfield 34, [6, 9, 1], nS) :: (87, .iload_n 1, [], nS) :: (88, .iaload, [], nS) :: L_X6_later_89
def L_X6_later_66 : List Item := (66, .iload_n 3, [], nS) :: (67, .iconst 1, [], nS) :: (68, .if_icmp .ne 15, [83], nS) :: (71, .aload_n 0, [], nS) :: (72, .getfield 31, [6, 8, 1], nS) :: (75, .iload_n 1, [], nS) :: (76, .iaload, [], nS) :: (77, .iload 4, [], nS) :: (79, .isub, [], nS) :: (80, .goto 9, [89], nS) :: L_X6_later_83
def L_X6_later_32 : List Item := (32, .aload_n 0, [], nS) :: (33, .aload_n 0, [], nS) :: (34, .getfield 62, [6, 25, 1], nS) :: (37, .invokevirtual 176, [1, 6, 0, 0], S_X6_keep) :: (40, .aload_n 0, [], nS) :: (41, .getfield 31, [6, 8, 1], nS) :: (44, .iload_n 1, [], nS) :: (45, .iaload, [], nS) :: (46, .istore 4, [], nS) :: (48, .aload_n 0, [], nS) :: (49, .iload_n 2, [], nS) :: (50, .invokevirtual 217, [1, 6, 0, 0], S_X6_goesOn) :: (53, .iload_n 3, [], nS) :: (54, .ifCond .ne 12, [66], nS) :: (57, .aload_n 0, [], nS) :: (58, .getfield 28, [6, 7, 1], nS) :: (61, .iload_n 1, [], nS) :: (62, .iaload, [], nS) :: (63, .goto 26, [89], nS) :: L_X6_later_66
def L_X6_later_24 : List Item := (24, .aload_n 0, [], nS) :: (25, .sipush (-1002), [], nS) :: (28, .invokevirtual 82, [1, 6, 0, 0], S_X6_no) :: (31, .ireturn, [], nS) :: L_X6_later_32
def L_X6_later_0 : List Item := (0, .aload_n 0, [], nS) :: (1, .iload_n 1, [], nS) :: (2, .invokevirtual 96, [1, 6, 0, 0], S_X6_isHeir) :: (5, .ifCond .eq 19, [24], nS) :: (8, .iload_n 2, [], nS) :: (9, .invokestatic 214, [0, 1, 0, 0], S_X6_isTime) :: (12, .ifCond .eq 12, [24], nS) :: (15, .iload_n 3, [], nS) :: (16, .iconst 0, [], nS) :: (17, .iconst 2, [], nS) :: (18, .invokestatic 72, [0, 3, 0, 0], S_X6_within) :: (21, .ifCond .ne 11, [32], nS) :: L_X6_later_24
def L_X6_later : List Item := L_X6_later_0
theorem ok_X6_later : okB cX6_later L_X6_later = true := by decide +kernel
theorem lk_X6_later (l : Launch) : LKs l RX6 5 false L_X6_later := ⟨trivial, trivial, ⟨_, _, _, _, _, _, _, _, _, rfl, c_X6_isHeir l, Or.inl ⟨by decide, yv_X6_isHeir⟩, by decide, gT_of (List.mem_of_getElem? (i := 1042) (by decide +kernel)) rfl⟩, trivial, trivial, Or.inl ⟨_, _, _, _, _, _, _, _, rfl, c_X6_isTime l, yv_X6_isTime, by decide, gT_of (List.mem_of_getElem? (i := 1173) (by decide +kernel)) rfl⟩, trivial, trivial, trivial, trivial, Or.inl ⟨_, _, _, _, _, _, _, _, rfl, c_X6_within l, yv_X6_within, by decide, gT_of (List.mem_of_getElem? (i := 1004) (by decide +kernel)) rfl⟩, trivial, trivial, trivial, ⟨_, _, _, _, _, _, _, _, _, rfl, c_X6_no l, Or.inl ⟨by decide, yv_X6_no⟩, by decide, gT_of (List.mem_of_getElem? (i := 1007) (by decide +kernel)) rfl⟩, trivial, trivial, trivial, ⟨_, _, _, rfl, ⟨(RX6, TX6, 26), rfl, by decide, gT_of (List.mem_of_getElem? (i := 943) (by decide +kernel)) rfl⟩, rfl⟩, ⟨_, _, _, _, _, _, _, _, _, rfl, c_X6_keep l, Or.inl ⟨by decide, yv_X6_keep⟩, by decide, gT_of (List.mem_of_getElem? (i := 1098) (by decide +kernel)) rfl⟩, trivial, ⟨_, _, _, rfl, ⟨(RX6, TX6, 26), rfl, by decide, gT_of (List.mem_of_getElem? (i := 926) (by decide +kernel)) rfl⟩, rfl⟩, trivial, trivial, trivial, trivial, trivial, ⟨_, _, _, _, _, _, _, _, _, rfl, c_X6_goesOn l, Or.inl ⟨by decide, yv_X6_goesOn⟩, by decide, gT_of (List.mem_of_getElem? (i := 1176) (by decide +kernel)) rfl⟩, trivial, trivial, trivial, ⟨_, _, _, rfl, ⟨(RX6, TX6, 26), rfl, by decide, gT_of (List.mem_of_getElem? (i := 925) (by decide +kernel)) rfl⟩, rfl⟩, trivial, trivial, trivial, trivial, trivial, trivial, trivial, ⟨_, _, _, rfl, ⟨(RX6, TX6, 26), rfl, by decide, gT_of (List.mem_of_getElem? (i := 926) (by decide +kernel)) rfl⟩, rfl⟩, trivial, trivial, trivial, trivial, trivial, trivial, ⟨_, _, _, rfl, ⟨(RX6, TX6, 26), rfl, by decide, gT_of (List.mem_of_getElem? (i := 927) (by decide +kernel)) rfl⟩, rfl⟩, trivial, trivial, trivial, trivial, trivial, ⟨_, _, _, rfl, ⟨(RX6, TX6, 26), rfl, by decide, gT_of (List.mem_of_getElem? (i := 943) (by decide +kernel)) rfl⟩, rfl⟩, ⟨_, _, _, _, _, _, _, _, _, rfl, c_X6_again l, Or.inl ⟨by decide, yv_X6_again⟩, by decide, gT_of (List.mem_of_getElem? (i := 1141) (by decide +kernel)) rfl⟩, trivial, trivial, trivial⟩
theorem b_X6_later_0 : atL L_X6_later 0 = L_X6_later_0 := rfl
theorem b_X6_later_24 : atL L_X6_later 24 = L_X6_later_24 := rfl
theorem b_X6_later_32 : atL L_X6_later 32 = L_X6_later_32 := rfl
theorem b_X6_later_66 : atL L_X6_later 66 = L_X6_later_66 := rfl
theorem b_X6_later_83 : atL L_X6_later 83 = L_X6_later_83 := rfl
theorem b_X6_later_89 : atL L_X6_later 89 = L_X6_later_89 := rfl
theorem a_X6_later_24 : afw L_X6_later [] 24 = L_X6_later_24 := rfl
theorem a_X6_later_32 : afw L_X6_later [] 32 = L_X6_later_32 := rfl
theorem a_X6_later_66 : afw L_X6_later [] 66 = L_X6_later_66 := rfl
theorem a_X6_later_83 : afw L_X6_later [] 83 = L_X6_later_83 := rfl
theorem a_X6_later_89 : afw L_X6_later [] 89 = L_X6_later_89 := rfl
theorem yv_X6_later : YV yX6_later cX6_later 6 (some .int) 3 6 := ⟨⟨gT_of (List.mem_of_getElem? (i := 1204) (by decide +kernel)) rfl, gT_of (List.mem_of_getElem? (i := 74) (by decide +kernel)) rfl, ⟨by decide, by decide⟩, by decide +kernel, by decide⟩, gT_of (List.mem_of_getElem? (i := 1202) (by decide +kernel)) rfl, gT_of (List.mem_of_getElem? (i := 1203) (by decide +kernel)) rfl, rfl⟩
theorem u_X6_later_0 : L_X6_later_0 = (0, .aload_n 0, [], nS) :: (1, .iload_n 1, [], nS) :: (2, .invokevirtual 96, [1, 6, 0, 0], S_X6_isHeir) :: (5, .ifCond .eq 19, [24], nS) :: (8, .iload_n 2, [], nS) :: (9, .invokestatic 214, [0, 1, 0, 0], S_X6_isTime) :: (12, .ifCond .eq 12, [24], nS) :: (15, .iload_n 3, [], nS) :: (16, .iconst 0, [], nS) :: (17, .iconst 2, [], nS) :: (18, .invokestatic 72, [0, 3, 0, 0], S_X6_within) :: (21, .ifCond .ne 11, [32], nS) :: L_X6_later_24 := nr rfl
theorem u_X6_later_24 : L_X6_later_24 = (24, .aload_n 0, [], nS) :: (25, .sipush (-1002), [], nS) :: (28, .invokevirtual 82, [1, 6, 0, 0], S_X6_no) :: (31, .ireturn, [], nS) :: L_X6_later_32 := nr rfl
theorem u_X6_later_32 : L_X6_later_32 = (32, .aload_n 0, [], nS) :: (33, .aload_n 0, [], nS) :: (34, .getfield 62, [6, 25, 1], nS) :: (37, .invokevirtual 176, [1, 6, 0, 0], S_X6_keep) :: (40, .aload_n 0, [], nS) :: (41, .getfield 31, [6, 8, 1], nS) :: (44, .iload_n 1, [], nS) :: (45, .iaload, [], nS) :: (46, .istore 4, [], nS) :: (48, .aload_n 0, [], nS) :: (49, .iload_n 2, [], nS) :: (50, .invokevirtual 217, [1, 6, 0, 0], S_X6_goesOn) :: (53, .iload_n 3, [], nS) :: (54, .ifCond .ne 12, [66], nS) :: (57, .aload_n 0, [], nS) :: (58, .getfield 28, [6, 7, 1], nS) :: (61, .iload_n 1, [], nS) :: (62, .iaload, [], nS) :: (63, .goto 26, [89], nS) :: L_X6_later_66 := nr rfl
theorem u_X6_later_66 : L_X6_later_66 = (66, .iload_n 3, [], nS) :: (67, .iconst 1, [], nS) :: (68, .if_icmp .ne 15, [83], nS) :: (71, .aload_n 0, [], nS) :: (72, .getfield 31, [6, 8, 1], nS) :: (75, .iload_n 1, [], nS) :: (76, .iaload, [], nS) :: (77, .iload 4, [], nS) :: (79, .isub, [], nS) :: (80, .goto 9, [89], nS) :: L_X6_later_83 := nr rfl
theorem u_X6_later_83 : L_X6_later_83 = (83, .aload_n 0, [], nS) :: (84, .getfield 34, [6, 9, 1], nS) :: (87, .iload_n 1, [], nS) :: (88, .iaload, [], nS) :: L_X6_later_89 := nr rfl
theorem u_X6_later_89 : L_X6_later_89 = (89, .istore 5, [], nS) :: (91, .aload_n 0, [], nS) :: (92, .aload_n 0, [], nS) :: (93, .getfield 62, [6, 25, 1], nS) :: (96, .invokevirtual 184, [1, 6, 0, 0], S_X6_again) :: (99, .iload 5, [], nS) :: (101, .ireturn, [], nS) :: [] := nr rfl
theorem z_X6_later_0 : atL L_X6_later 0 = L_X6_later_0 := nr rfl
theorem z_X6_later_24 : atL L_X6_later 24 = L_X6_later_24 := nr rfl
theorem z_X6_later_32 : atL L_X6_later 32 = L_X6_later_32 := nr rfl
theorem z_X6_later_66 : atL L_X6_later 66 = L_X6_later_66 := nr rfl
theorem z_X6_later_83 : atL L_X6_later 83 = L_X6_later_83 := nr rfl
theorem z_X6_later_89 : atL L_X6_later 89 = L_X6_later_89 := nr rfl
theorem j_X6_later_24 {G : List Item → SpS → List Value → List Value → AH → Prop} {J : Nat → SpS → List Value → List Value → AH → Prop} {S : SpS} {lv st : List Value} {h : AH} : jmp G J (afw L_X6_later [] 24) 24 S lv st h = G L_X6_later_24 S lv st h := nr rfl
theorem j_X6_later_32 {G : List Item → SpS → List Value → List Value → AH → Prop} {J : Nat → SpS → List Value → List Value → AH → Prop} {S : SpS} {lv st : List Value} {h : AH} : jmp G J (afw L_X6_later [] 32) 32 S lv st h = G L_X6_later_32 S lv st h := nr rfl
theorem j_X6_later_66 {G : List Item → SpS → List Value → List Value → AH → Prop} {J : Nat → SpS → List Value → List Value → AH → Prop} {S : SpS} {lv st : List Value} {h : AH} : jmp G J (afw L_X6_later [] 66) 66 S lv st h = G L_X6_later_66 S lv st h := nr rfl
theorem j_X6_later_83 {G : List Item → SpS → List Value → List Value → AH → Prop} {J : Nat → SpS → List Value → List Value → AH → Prop} {S : SpS} {lv st : List Value} {h : AH} : jmp G J (afw L_X6_later [] 83) 83 S lv st h = G L_X6_later_83 S lv st h := nr rfl
theorem j_X6_later_89 {G : List Item → SpS → List Value → List Value → AH → Prop} {J : Nat → SpS → List Value → List Value → AH → Prop} {S : SpS} {lv st : List Value} {h : AH} : jmp G J (afw L_X6_later [] 89) 89 S lv st h = G L_X6_later_89 S lv st h := nr rfl
theorem e_X6_later {x : Addr} {i : Int32} {n : Int32} {w : Int32} {h : AH} {K2 : Option Value → SpS → AH → Prop} : S_X6_later SH0 [.ref x, .int i, .int n, .int w] h K2 = (fun (K : Option Value → AH → Prop) => x = 64 ∧ XM h (fun G => g_later G i n w) K) (fun v h' => K2 v SH0 h') := (lift_e P_X6_later [.ref x, .int i, .int n, .int w] h K2).trans (nr rfl)
set_option maxRecDepth 100000 in
set_option maxHeartbeats 4000000 in
theorem c_X6_later (l : Launch) : Ct l yX6_later cX6_later 6 (some .int) 5 0 0 S_X6_later := by
  refine Ct0_mk L_X6_later [] (by decide +kernel) (by decide) ok_X6_later (lk_X6_later l) ?_
  intro as h K hP
  match as, hP with
  | [.ref x, .int i, .int n, .int w], ⟨hx, G, hG, hI, hK⟩ =>
  refine ⟨by simp [slotsN, Value.category], fun J hJ => ?_⟩
  subst hx
  dsimp only at hK
  have hE : estM h = vE G := hG.1
  have ho := okG_ok (okM_G hI)
  have ho2 := okG_t (okM_G hI)
  have hn : cnt (vE G) ≤ 10 := okG_n (okM_G hI)
  have c4 : gI h 64 2 = nI (cnt (vE G)) := by rw [← hE]; exact em_c (hE ▸ ho)
  by_cases hh0 : isH G i
  · by_cases hh : inI n 200
    · by_cases hh2 : inI w 2
      · simp only [g_later, if_pos (And.intro hh0 (And.intro hh hh2))] at hK
        obtain ⟨j, hj, rfl⟩ := heir_of hn hh0
        obtain ⟨m, hm, rfl⟩ := in_of (m := 200) (by omega) hh
        rw [ix_m (j := m) (by omega), ix_n (by omega)] at hK
        have hj10 : j < 10 := by omega
        refine hJ 0 _ _ _ _ ?_
        simp only [z_X6_later_0, u_X6_later_0, u_X6_later_24, u_X6_later_32, u_X6_later_66, u_X6_later_83, u_X6_later_89, j_X6_later_24, j_X6_later_32, j_X6_later_66, j_X6_later_83, j_X6_later_89, ev_aload_n0, ev_iload_n1, ev_callV1, ev_if_eq, ev_iload_n2, ev_callS1, ev_iload_n3, ev_iconst, ev_callS3, ev_if_ne, ev_sipush, ev_iret, ro_i, ro_z, ev_getfR, ev_iaload, ev_istore4, ev_goto, ev_ic_ne, ev_iload4, ev_isub, ev_istore5, ev_iload5, ↓e_X6_again, ↓e_X6_goesOn, ↓e_X6_isHeir, ↓e_X6_isTime, ↓e_X6_keep, ↓e_X6_no, ↓e_X6_within, vq3_0, vq3_1, vq3_2, cq_0, cq_1, cq_2, capO_z, kb_6, kb_7, kb_8, kb_9, kb_10, kb_12, kb_16, kb_20, kb_21, kb_30, kb_32, kb_40, kb_48, kb_50, kb_57, kb_59, kb_60, kb_63, kb_70, kb_78, kb_81, kb_82, kb_84, kb_97, kb_99, kb_100, kb_101, kb_119, kb_120, kb_122, ki_m1, ki_0, ki_1, ki_2, ki_3, ki_4, ki_5, ki_6, ki_7, ki_8, ki_9, ki_10, ki_11, ki_12, ki_13, ki_14, ki_15, ki_16, ki_17, ki_18, ki_19, ki_20, ki_21, ki_22, ki_23, ki_24, ki_25, ki_26, ki_27, ki_28, ki_29, ki_30, ki_31, ki_32, ki_33, ki_34, ki_35, ki_36, ki_37, ki_38, ki_39, ki_40, ki_41, ki_42, ki_43, ki_44, ki_45, ki_46, ki_47, ki_48, ki_49, ki_50, ki_51, ki_52, ki_53, ki_54, ki_55, ki_56, ki_57, ki_58, ki_59, ki_60, ki_61, ki_62, ki_63, ks_m2000, ks_m1006, ks_m1005, ks_m1004, ks_m1003, ks_m1002, ks_m1000, ks_200, ks_250, ks_255, ks_256, ks_320, ks_660, ks_999, ks_1000, ks_9999, ks_12345, ne_2, ne_10, t_0, t_40, t_41, t_42, t_43, t_44, t_45, t_46, t_47, t_64, t_65, t_66, t_67, t_68, t_69, t_70, t_71, t_72, t_73, t_74, t_75, t_76, t_77, t_78, t_79, t_80, t_81, t_82, r_0_0, r_0_1, r_0_2, r_0_4, r_0_5, r_0_6, r_0_7, r_40_0, r_40_5, r_44_0, r_44_1, r_64_0, r_64_1, r_64_3, r_64_4, r_64_5, r_64_6, r_64_7, r_64_8, r_64_9, r_64_12, r_64_17, r_64_18, r_64_19, r_64_20, r_64_22, r_64_23, r_64_24, r_64_25, t_1, t_14, t_27, t_2, t_15, t_28, Nat.reduceEqDiff, ne_eq, not_false_eq_true, false_implies, true_implies, implies_true, Nat.reduceAdd, Nat.reduceLeDiff, Nat.reduceLT, Nat.reduceMul, or_true, true_or, if_true, if_false, not_true_eq_false, and_self, bF, Nat.reduceBEq, Bool.false_and, Bool.and_false, Bool.or_self, Bool.or_false, Bool.false_or, Bool.false_eq_true, Int.reduceAdd, Bool.and_self, Bool.true_and, Bool.and_true, beq_self_eq_true, not_not_, i10_, i01_, List.length_nil, List.length_cons, true_and, and_true, false_and, and_false, kl_i, kl_a, kl_n, kl_l, tl_s, tl_n, rv_S, pd_0, pd_e, pd_r, pd_i, pd_l, c4, b2i_t hh0, b2i_t hh, b2i_t hh2, one_z]
        refine ⟨82, rfl, isA82, by rw [hE]; exact ho, fun h1 k1 k2 k3 => ?_⟩
        have m1 := (em_k isA82 k2).trans hE
        have u1 : gI h1 72 j = eF (vE G) j 5 := by rw [← m1]; exact (em_f (h := h1) (i := j) (k := 5) (by rw [m1]; exact hj) (by omega)).symm
        simp only [u_X6_later_0, u_X6_later_24, u_X6_later_32, u_X6_later_66, u_X6_later_83, u_X6_later_89, j_X6_later_24, j_X6_later_32, j_X6_later_66, j_X6_later_83, j_X6_later_89, ev_aload_n0, ev_iload_n1, ev_callV1, ev_if_eq, ev_iload_n2, ev_callS1, ev_iload_n3, ev_iconst, ev_callS3, ev_if_ne, ev_sipush, ev_iret, ro_i, ro_z, ev_getfR, ev_iaload, ev_istore4, ev_goto, ev_ic_ne, ev_iload4, ev_isub, ev_istore5, ev_iload5, ↓e_X6_again, ↓e_X6_goesOn, ↓e_X6_isHeir, ↓e_X6_isTime, ↓e_X6_keep, ↓e_X6_no, ↓e_X6_within, vq3_0, vq3_1, vq3_2, cq_0, cq_1, cq_2, capO_z, kb_6, kb_7, kb_8, kb_9, kb_10, kb_12, kb_16, kb_20, kb_21, kb_30, kb_32, kb_40, kb_48, kb_50, kb_57, kb_59, kb_60, kb_63, kb_70, kb_78, kb_81, kb_82, kb_84, kb_97, kb_99, kb_100, kb_101, kb_119, kb_120, kb_122, ki_m1, ki_0, ki_1, ki_2, ki_3, ki_4, ki_5, ki_6, ki_7, ki_8, ki_9, ki_10, ki_11, ki_12, ki_13, ki_14, ki_15, ki_16, ki_17, ki_18, ki_19, ki_20, ki_21, ki_22, ki_23, ki_24, ki_25, ki_26, ki_27, ki_28, ki_29, ki_30, ki_31, ki_32, ki_33, ki_34, ki_35, ki_36, ki_37, ki_38, ki_39, ki_40, ki_41, ki_42, ki_43, ki_44, ki_45, ki_46, ki_47, ki_48, ki_49, ki_50, ki_51, ki_52, ki_53, ki_54, ki_55, ki_56, ki_57, ki_58, ki_59, ki_60, ki_61, ki_62, ki_63, ks_m2000, ks_m1006, ks_m1005, ks_m1004, ks_m1003, ks_m1002, ks_m1000, ks_200, ks_250, ks_255, ks_256, ks_320, ks_660, ks_999, ks_1000, ks_9999, ks_12345, ne_2, ne_10, t_0, t_40, t_41, t_42, t_43, t_44, t_45, t_46, t_47, t_64, t_65, t_66, t_67, t_68, t_69, t_70, t_71, t_72, t_73, t_74, t_75, t_76, t_77, t_78, t_79, t_80, t_81, t_82, r_0_0, r_0_1, r_0_2, r_0_4, r_0_5, r_0_6, r_0_7, r_40_0, r_40_5, r_44_0, r_44_1, r_64_0, r_64_1, r_64_3, r_64_4, r_64_5, r_64_6, r_64_7, r_64_8, r_64_9, r_64_12, r_64_17, r_64_18, r_64_19, r_64_20, r_64_22, r_64_23, r_64_24, r_64_25, t_1, t_14, t_27, t_2, t_15, t_28, Nat.reduceEqDiff, ne_eq, not_false_eq_true, false_implies, true_implies, implies_true, Nat.reduceAdd, Nat.reduceLeDiff, Nat.reduceLT, Nat.reduceMul, or_true, true_or, if_true, if_false, not_true_eq_false, and_self, bF, Nat.reduceBEq, Bool.false_and, Bool.and_false, Bool.or_self, Bool.or_false, Bool.false_or, Bool.false_eq_true, Int.reduceAdd, Bool.and_self, Bool.true_and, Bool.and_true, beq_self_eq_true, not_not_, i10_, i01_, List.length_nil, List.length_cons, true_and, and_true, false_and, and_false, kl_i, kl_a, kl_n, kl_l, tl_s, tl_n, rv_S, pd_0, pd_e, pd_r, pd_i, pd_l, vp10 hj10, nI_10 hj10, u1]
        refine ⟨by rw [m1]; exact ho, m, hm, rfl, fun h2 e2 f2 => ?_⟩
        rw [m1] at e2
        have hj2 : j < cnt (estM h2) := by rw [e2, sameE_cnt (same_passN m _)]; exact hj
        have ga := ag_ok hE ho k1 f2
        have fin : ∀ h3, estM h3 = estA h2 82 → frM h2 h3 → K (some (.int (laterE (vE G) j m w))) SH0 h3 := fun h3 e3 f3 => by
          obtain ⟨s3, y3⟩ := ag_go hG k1 k2 k3 f2 e3 f3
          exact hK h3 s3 y3
        unfold laterE at fin
        have v4 : gI h2 71 j = eF (passN m (supE (vE G))) j 4 := by rw [← em_f (h := h2) (i := j) (k := 4) hj2 (by omega), e2, pN, eF_add (by omega)]
        have v5 : gI h2 72 j = eF (passN m (supE (vE G))) j 5 + eF (vE G) j 5 := by
          rw [← em_f (h := h2) (i := j) (k := 5) hj2 (by omega), e2, pN, eF_add5]
          unfold useU
          rw [if_pos hj]
        have v6 : gI h2 73 j = eF (passN m (supE (vE G))) j 6 := by rw [← em_f (h := h2) (i := j) (k := 6) hj2 (by omega), e2, pN, eF_add (by omega)]
        simp only [u_X6_later_0, u_X6_later_24, u_X6_later_32, u_X6_later_66, u_X6_later_83, u_X6_later_89, j_X6_later_24, j_X6_later_32, j_X6_later_66, j_X6_later_83, j_X6_later_89, ev_aload_n0, ev_iload_n1, ev_callV1, ev_if_eq, ev_iload_n2, ev_callS1, ev_iload_n3, ev_iconst, ev_callS3, ev_if_ne, ev_sipush, ev_iret, ro_i, ro_z, ev_getfR, ev_iaload, ev_istore4, ev_goto, ev_ic_ne, ev_iload4, ev_isub, ev_istore5, ev_iload5, ↓e_X6_again, ↓e_X6_goesOn, ↓e_X6_isHeir, ↓e_X6_isTime, ↓e_X6_keep, ↓e_X6_no, ↓e_X6_within, vq3_0, vq3_1, vq3_2, cq_0, cq_1, cq_2, capO_z, kb_6, kb_7, kb_8, kb_9, kb_10, kb_12, kb_16, kb_20, kb_21, kb_30, kb_32, kb_40, kb_48, kb_50, kb_57, kb_59, kb_60, kb_63, kb_70, kb_78, kb_81, kb_82, kb_84, kb_97, kb_99, kb_100, kb_101, kb_119, kb_120, kb_122, ki_m1, ki_0, ki_1, ki_2, ki_3, ki_4, ki_5, ki_6, ki_7, ki_8, ki_9, ki_10, ki_11, ki_12, ki_13, ki_14, ki_15, ki_16, ki_17, ki_18, ki_19, ki_20, ki_21, ki_22, ki_23, ki_24, ki_25, ki_26, ki_27, ki_28, ki_29, ki_30, ki_31, ki_32, ki_33, ki_34, ki_35, ki_36, ki_37, ki_38, ki_39, ki_40, ki_41, ki_42, ki_43, ki_44, ki_45, ki_46, ki_47, ki_48, ki_49, ki_50, ki_51, ki_52, ki_53, ki_54, ki_55, ki_56, ki_57, ki_58, ki_59, ki_60, ki_61, ki_62, ki_63, ks_m2000, ks_m1006, ks_m1005, ks_m1004, ks_m1003, ks_m1002, ks_m1000, ks_200, ks_250, ks_255, ks_256, ks_320, ks_660, ks_999, ks_1000, ks_9999, ks_12345, ne_2, ne_10, t_0, t_40, t_41, t_42, t_43, t_44, t_45, t_46, t_47, t_64, t_65, t_66, t_67, t_68, t_69, t_70, t_71, t_72, t_73, t_74, t_75, t_76, t_77, t_78, t_79, t_80, t_81, t_82, r_0_0, r_0_1, r_0_2, r_0_4, r_0_5, r_0_6, r_0_7, r_40_0, r_40_5, r_44_0, r_44_1, r_64_0, r_64_1, r_64_3, r_64_4, r_64_5, r_64_6, r_64_7, r_64_8, r_64_9, r_64_12, r_64_17, r_64_18, r_64_19, r_64_20, r_64_22, r_64_23, r_64_24, r_64_25, t_1, t_14, t_27, t_2, t_15, t_28, Nat.reduceEqDiff, ne_eq, not_false_eq_true, false_implies, true_implies, implies_true, Nat.reduceAdd, Nat.reduceLeDiff, Nat.reduceLT, Nat.reduceMul, or_true, true_or, if_true, if_false, not_true_eq_false, and_self, bF, Nat.reduceBEq, Bool.false_and, Bool.and_false, Bool.or_self, Bool.or_false, Bool.false_or, Bool.false_eq_true, Int.reduceAdd, Bool.and_self, Bool.true_and, Bool.and_true, beq_self_eq_true, not_not_, i10_, i01_, List.length_nil, List.length_cons, true_and, and_true, false_and, and_false, kl_i, kl_a, kl_n, kl_l, tl_s, tl_n, rv_S, pd_0, pd_e, pd_r, pd_i, pd_l, vp10 hj10, nI_10 hj10, v4, v5, v6, Int32.add_sub_cancel]
        refine ⟨fun q => ⟨fun q2 => ⟨82, rfl, isA82, ga, ?_⟩, fun q2 => ⟨82, rfl, isA82, ga, ?_⟩⟩, fun q => ⟨82, rfl, isA82, ga, ?_⟩⟩
        · rw [if_neg q, if_neg q2] at fin; exact fin
        · rw [if_neg q, if_pos q2] at fin; exact fin
        · rw [if_pos q] at fin; exact fin
      · simp only [g_later, if_neg (fun z : isH G i ∧ inI n 200 ∧ inI w 2 => hh2 z.2.2), noG] at hK
        refine hJ 0 _ _ _ _ ?_
        simp only [z_X6_later_0, u_X6_later_0, u_X6_later_24, u_X6_later_32, u_X6_later_66, u_X6_later_83, u_X6_later_89, j_X6_later_24, j_X6_later_32, j_X6_later_66, j_X6_later_83, j_X6_later_89, ev_aload_n0, ev_iload_n1, ev_callV1, ev_if_eq, ev_iload_n2, ev_callS1, ev_iload_n3, ev_iconst, ev_callS3, ev_if_ne, ev_sipush, ev_iret, ro_i, ro_z, ev_getfR, ev_iaload, ev_istore4, ev_goto, ev_ic_ne, ev_iload4, ev_isub, ev_istore5, ev_iload5, ↓e_X6_again, ↓e_X6_goesOn, ↓e_X6_isHeir, ↓e_X6_isTime, ↓e_X6_keep, ↓e_X6_no, ↓e_X6_within, vq3_0, vq3_1, vq3_2, cq_0, cq_1, cq_2, capO_z, kb_6, kb_7, kb_8, kb_9, kb_10, kb_12, kb_16, kb_20, kb_21, kb_30, kb_32, kb_40, kb_48, kb_50, kb_57, kb_59, kb_60, kb_63, kb_70, kb_78, kb_81, kb_82, kb_84, kb_97, kb_99, kb_100, kb_101, kb_119, kb_120, kb_122, ki_m1, ki_0, ki_1, ki_2, ki_3, ki_4, ki_5, ki_6, ki_7, ki_8, ki_9, ki_10, ki_11, ki_12, ki_13, ki_14, ki_15, ki_16, ki_17, ki_18, ki_19, ki_20, ki_21, ki_22, ki_23, ki_24, ki_25, ki_26, ki_27, ki_28, ki_29, ki_30, ki_31, ki_32, ki_33, ki_34, ki_35, ki_36, ki_37, ki_38, ki_39, ki_40, ki_41, ki_42, ki_43, ki_44, ki_45, ki_46, ki_47, ki_48, ki_49, ki_50, ki_51, ki_52, ki_53, ki_54, ki_55, ki_56, ki_57, ki_58, ki_59, ki_60, ki_61, ki_62, ki_63, ks_m2000, ks_m1006, ks_m1005, ks_m1004, ks_m1003, ks_m1002, ks_m1000, ks_200, ks_250, ks_255, ks_256, ks_320, ks_660, ks_999, ks_1000, ks_9999, ks_12345, ne_2, ne_10, t_0, t_40, t_41, t_42, t_43, t_44, t_45, t_46, t_47, t_64, t_65, t_66, t_67, t_68, t_69, t_70, t_71, t_72, t_73, t_74, t_75, t_76, t_77, t_78, t_79, t_80, t_81, t_82, r_0_0, r_0_1, r_0_2, r_0_4, r_0_5, r_0_6, r_0_7, r_40_0, r_40_5, r_44_0, r_44_1, r_64_0, r_64_1, r_64_3, r_64_4, r_64_5, r_64_6, r_64_7, r_64_8, r_64_9, r_64_12, r_64_17, r_64_18, r_64_19, r_64_20, r_64_22, r_64_23, r_64_24, r_64_25, t_1, t_14, t_27, t_2, t_15, t_28, Nat.reduceEqDiff, ne_eq, not_false_eq_true, false_implies, true_implies, implies_true, Nat.reduceAdd, Nat.reduceLeDiff, Nat.reduceLT, Nat.reduceMul, or_true, true_or, if_true, if_false, not_true_eq_false, and_self, bF, Nat.reduceBEq, Bool.false_and, Bool.and_false, Bool.or_self, Bool.or_false, Bool.false_or, Bool.false_eq_true, Int.reduceAdd, Bool.and_self, Bool.true_and, Bool.and_true, beq_self_eq_true, not_not_, i10_, i01_, List.length_nil, List.length_cons, true_and, and_true, false_and, and_false, kl_i, kl_a, kl_n, kl_l, tl_s, tl_n, rv_S, pd_0, pd_e, pd_r, pd_i, pd_l, c4, b2i_t hh0, b2i_t hh, b2i_f hh2, one_z, zero_z, ic_2]
        exact hK _ (simM_ref hI hG kc2) (frY_ref h _)
    · simp only [g_later, if_neg (fun z : isH G i ∧ inI n 200 ∧ inI w 2 => hh z.2.1), noG] at hK
      refine hJ 0 _ _ _ _ ?_
      simp only [z_X6_later_0, u_X6_later_0, u_X6_later_24, u_X6_later_32, u_X6_later_66, u_X6_later_83, u_X6_later_89, j_X6_later_24, j_X6_later_32, j_X6_later_66, j_X6_later_83, j_X6_later_89, ev_aload_n0, ev_iload_n1, ev_callV1, ev_if_eq, ev_iload_n2, ev_callS1, ev_iload_n3, ev_iconst, ev_callS3, ev_if_ne, ev_sipush, ev_iret, ro_i, ro_z, ev_getfR, ev_iaload, ev_istore4, ev_goto, ev_ic_ne, ev_iload4, ev_isub, ev_istore5, ev_iload5, ↓e_X6_again, ↓e_X6_goesOn, ↓e_X6_isHeir, ↓e_X6_isTime, ↓e_X6_keep, ↓e_X6_no, ↓e_X6_within, vq3_0, vq3_1, vq3_2, cq_0, cq_1, cq_2, capO_z, kb_6, kb_7, kb_8, kb_9, kb_10, kb_12, kb_16, kb_20, kb_21, kb_30, kb_32, kb_40, kb_48, kb_50, kb_57, kb_59, kb_60, kb_63, kb_70, kb_78, kb_81, kb_82, kb_84, kb_97, kb_99, kb_100, kb_101, kb_119, kb_120, kb_122, ki_m1, ki_0, ki_1, ki_2, ki_3, ki_4, ki_5, ki_6, ki_7, ki_8, ki_9, ki_10, ki_11, ki_12, ki_13, ki_14, ki_15, ki_16, ki_17, ki_18, ki_19, ki_20, ki_21, ki_22, ki_23, ki_24, ki_25, ki_26, ki_27, ki_28, ki_29, ki_30, ki_31, ki_32, ki_33, ki_34, ki_35, ki_36, ki_37, ki_38, ki_39, ki_40, ki_41, ki_42, ki_43, ki_44, ki_45, ki_46, ki_47, ki_48, ki_49, ki_50, ki_51, ki_52, ki_53, ki_54, ki_55, ki_56, ki_57, ki_58, ki_59, ki_60, ki_61, ki_62, ki_63, ks_m2000, ks_m1006, ks_m1005, ks_m1004, ks_m1003, ks_m1002, ks_m1000, ks_200, ks_250, ks_255, ks_256, ks_320, ks_660, ks_999, ks_1000, ks_9999, ks_12345, ne_2, ne_10, t_0, t_40, t_41, t_42, t_43, t_44, t_45, t_46, t_47, t_64, t_65, t_66, t_67, t_68, t_69, t_70, t_71, t_72, t_73, t_74, t_75, t_76, t_77, t_78, t_79, t_80, t_81, t_82, r_0_0, r_0_1, r_0_2, r_0_4, r_0_5, r_0_6, r_0_7, r_40_0, r_40_5, r_44_0, r_44_1, r_64_0, r_64_1, r_64_3, r_64_4, r_64_5, r_64_6, r_64_7, r_64_8, r_64_9, r_64_12, r_64_17, r_64_18, r_64_19, r_64_20, r_64_22, r_64_23, r_64_24, r_64_25, t_1, t_14, t_27, t_2, t_15, t_28, Nat.reduceEqDiff, ne_eq, not_false_eq_true, false_implies, true_implies, implies_true, Nat.reduceAdd, Nat.reduceLeDiff, Nat.reduceLT, Nat.reduceMul, or_true, true_or, if_true, if_false, not_true_eq_false, and_self, bF, Nat.reduceBEq, Bool.false_and, Bool.and_false, Bool.or_self, Bool.or_false, Bool.false_or, Bool.false_eq_true, Int.reduceAdd, Bool.and_self, Bool.true_and, Bool.and_true, beq_self_eq_true, not_not_, i10_, i01_, List.length_nil, List.length_cons, true_and, and_true, false_and, and_false, kl_i, kl_a, kl_n, kl_l, tl_s, tl_n, rv_S, pd_0, pd_e, pd_r, pd_i, pd_l, c4, b2i_t hh0, b2i_f hh, one_z, zero_z, ic_2]
      exact hK _ (simM_ref hI hG kc2) (frY_ref h _)
  · simp only [g_later, if_neg (fun z : isH G i ∧ inI n 200 ∧ inI w 2 => hh0 z.1), noG] at hK
    refine hJ 0 _ _ _ _ ?_
    simp only [z_X6_later_0, u_X6_later_0, u_X6_later_24, u_X6_later_32, u_X6_later_66, u_X6_later_83, u_X6_later_89, j_X6_later_24, j_X6_later_32, j_X6_later_66, j_X6_later_83, j_X6_later_89, ev_aload_n0, ev_iload_n1, ev_callV1, ev_if_eq, ev_iload_n2, ev_callS1, ev_iload_n3, ev_iconst, ev_callS3, ev_if_ne, ev_sipush, ev_iret, ro_i, ro_z, ev_getfR, ev_iaload, ev_istore4, ev_goto, ev_ic_ne, ev_iload4, ev_isub, ev_istore5, ev_iload5, ↓e_X6_again, ↓e_X6_goesOn, ↓e_X6_isHeir, ↓e_X6_isTime, ↓e_X6_keep, ↓e_X6_no, ↓e_X6_within, vq3_0, vq3_1, vq3_2, cq_0, cq_1, cq_2, capO_z, kb_6, kb_7, kb_8, kb_9, kb_10, kb_12, kb_16, kb_20, kb_21, kb_30, kb_32, kb_40, kb_48, kb_50, kb_57, kb_59, kb_60, kb_63, kb_70, kb_78, kb_81, kb_82, kb_84, kb_97, kb_99, kb_100, kb_101, kb_119, kb_120, kb_122, ki_m1, ki_0, ki_1, ki_2, ki_3, ki_4, ki_5, ki_6, ki_7, ki_8, ki_9, ki_10, ki_11, ki_12, ki_13, ki_14, ki_15, ki_16, ki_17, ki_18, ki_19, ki_20, ki_21, ki_22, ki_23, ki_24, ki_25, ki_26, ki_27, ki_28, ki_29, ki_30, ki_31, ki_32, ki_33, ki_34, ki_35, ki_36, ki_37, ki_38, ki_39, ki_40, ki_41, ki_42, ki_43, ki_44, ki_45, ki_46, ki_47, ki_48, ki_49, ki_50, ki_51, ki_52, ki_53, ki_54, ki_55, ki_56, ki_57, ki_58, ki_59, ki_60, ki_61, ki_62, ki_63, ks_m2000, ks_m1006, ks_m1005, ks_m1004, ks_m1003, ks_m1002, ks_m1000, ks_200, ks_250, ks_255, ks_256, ks_320, ks_660, ks_999, ks_1000, ks_9999, ks_12345, ne_2, ne_10, t_0, t_40, t_41, t_42, t_43, t_44, t_45, t_46, t_47, t_64, t_65, t_66, t_67, t_68, t_69, t_70, t_71, t_72, t_73, t_74, t_75, t_76, t_77, t_78, t_79, t_80, t_81, t_82, r_0_0, r_0_1, r_0_2, r_0_4, r_0_5, r_0_6, r_0_7, r_40_0, r_40_5, r_44_0, r_44_1, r_64_0, r_64_1, r_64_3, r_64_4, r_64_5, r_64_6, r_64_7, r_64_8, r_64_9, r_64_12, r_64_17, r_64_18, r_64_19, r_64_20, r_64_22, r_64_23, r_64_24, r_64_25, t_1, t_14, t_27, t_2, t_15, t_28, Nat.reduceEqDiff, ne_eq, not_false_eq_true, false_implies, true_implies, implies_true, Nat.reduceAdd, Nat.reduceLeDiff, Nat.reduceLT, Nat.reduceMul, or_true, true_or, if_true, if_false, not_true_eq_false, and_self, bF, Nat.reduceBEq, Bool.false_and, Bool.and_false, Bool.or_self, Bool.or_false, Bool.false_or, Bool.false_eq_true, Int.reduceAdd, Bool.and_self, Bool.true_and, Bool.and_true, beq_self_eq_true, not_not_, i10_, i01_, List.length_nil, List.length_cons, true_and, and_true, false_and, and_false, kl_i, kl_a, kl_n, kl_l, tl_s, tl_n, rv_S, pd_0, pd_e, pd_r, pd_i, pd_l, c4, b2i_f hh0, zero_z, ic_2]
    exact hK _ (simM_ref hI hG kc2) (frY_ref h _)
def usedV (E : ES) (m : Nat) (w1 w2 : Int32) : Int32 := if w1 = 0 then leastU (passN m (supE E)) else if w2 = 0 then nI (happyN (passN m (supE E))) else eF (passN m (supE E)) (happyN (passN m (supE E))) 5
def leastR (E : ES) (n : Nat) : Int32 := forN n (fun i a => if eF E i 5 < a then eF E i 5 else a) (eF E 0 5)
def happyR (E : ES) (n : Nat) : Nat := forN n (fun i f => if eF E f 5 < eF E i 5 then i else f) 0
theorem leastR_s (E : ES) (n : Nat) : leastR E (n + 1) = if eF E n 5 < leastR E n then eF E n 5 else leastR E n := rfl
theorem happyR_s (E : ES) (n : Nat) : happyR E (n + 1) = if eF E (happyR E n) 5 < eF E n 5 then n else happyR E n := rfl
theorem happyR_lt (E : ES) : ∀ n, happyR E (n + 1) < n + 1
  | 0 => by
    rw [happyR_s]
    split
    · omega
    · show 0 < 1; omega
  | n + 1 => by
    have := happyR_lt E n
    rw [happyR_s]
    split <;> omega
theorem lt_irr32 (x : Int32) : ¬ x < x := fun z => absurd (Int32.le_refl x) (Int32.not_le.mpr z)
def P_X6_usedIn : Sp0T := fun as h K => match as with
  | [.ref x, .int n, .int w1, .int w2] => x = 64 ∧ okE (estM h) ∧ 0 < cnt (estM h) ∧ ∃ m : Nat, m ≤ 200 ∧ n = nI m ∧ (w1 = 0 ∨ w1 = 1) ∧ (w2 = 0 ∨ w2 = 1) ∧ (w1 = 0 → w2 = 1) ∧ ∀ h', estM h' = estM h → frW h h' → K (some (.int (usedV (estM h) m w1 w2))) h'
  | _ => False
def S_X6_usedIn : SpT := lift P_X6_usedIn
def L_X6_usedIn_121 : List Item := (121, .istore 5, [], nS) :: (123, .aload_n 0, [], nS) :: (124, .aload_n 0, [], nS) :: (125, .getfield 62, [6, 25, 1], nS) :: (128, .invokevirtual 184, [1, 6, 0, 0], S_X6_again) :: (131, .iload 5, [], nS) :: (133, .ireturn, [], nS) :: []
def L_X6_usedIn_119 : List Item := (119, .iload 4, [], nS) :: L_X6_usedIn_121
def L_X6_usedIn_105 : List Item := (105, .iload_n 3, [], nS) :: (106, .ifCond .eq 13, [119], nS) :: (109, .aload_n 0, [], nS) :: (110, .getfield 31, [6, 8, 1], nS) :: (113, .iload 4, [], nS) :: (115, .iaload, [], nS) :: (116, .goto 5, [121], nS) :: L_X6_usedIn_119
def L_X6_usedIn_99 : List Item := (99, .iinc 5 1, [], nS) :: (102, .goto (-57), [45], nS) :: L_X6_usedIn_105
def L_X6_usedIn_95 : List Item := (95, .iload 5, [], nS) :: (97, .istore 4, [], nS) :: L_X6_usedIn_99
def L_X6_usedIn_78 : List Item := (78, .aload_n 0, [], nS) :: (79, .getfield 31, [6, 8, 1], nS) :: (82, .iload 5, [], nS) :: (84, .iaload, [], nS) :: (85, .aload_n 0, [], nS) :: (86, .getfield 31, [6, 8, 1], nS) :: (89, .iload 4, [], nS) :: (91, .iaload, [], nS) :: (92, .if_icmp .ge 7, [99], nS) :: L_X6_usedIn_95
def L_X6_usedIn_45 : List Item := (45, .iload 5, [], nS) :: (47, .aload_n 0, [], nS) :: (48, .getfield 69, [6, 2, 0], nS) :: (51, .if_icmp .ge 54, [105], nS) :: (54, .iload_n 2, [], nS) :: (55, .ifCond .eq 23, [78], nS) :: (58, .aload_n 0, [], nS) :: (59, .getfield 31, [6, 8, 1], nS) :: (62, .iload 5, [], nS) :: (64, .iaload, [], nS) :: (65, .aload_n 0, [], nS) :: (66, .getfield 31, [6, 8, 1], nS) :: (69, .iload 4, [], nS) :: (71, .iaload, [], nS) :: (72, .if_icmp .le 27, [99], nS) :: (75, .goto 20, [95], nS) :: L_X6_usedIn_78
def L_X6_usedIn_34 : List Item := (34, .aload_n 0, [], nS) :: (35, .iload_n 1, [], nS) :: (36, .invokevirtual 217, [1, 6, 0, 0], S_X6_goesOn) :: (39, .iconst 0, [], nS) :: (40, .istore 4, [], nS) :: (42, .iconst 1, [], nS) :: (43, .istore 5, [], nS) :: (45, .nop, [], nS) :: L_X6_usedIn_45
def L_X6_usedIn_11 : List Item := (11, .iload 4, [], nS) :: (13, .aload_n 0, [], nS) :: (14, .getfield 69, [6, 2, 0], nS) :: (17, .if_icmp .ge 17, [34], nS) :: (20, .aload_n 0, [], nS) :: (21, .getfield 31, [6, 8, 1], nS) :: (24, .iload 4, [], nS) :: (26, .iconst 0, [], nS) :: (27, .iastore, [], nS) :: (28, .iinc 4 1, [], nS) :: (31, .goto (-20), [11], nS) :: L_X6_usedIn_34
def L_X6_usedIn_0 : List Item := (0, .aload_n 0, [], nS) :: (1, .aload_n 0, [], nS) :: (2, .getfield 62, [6, 25, 1], nS) :: (5, .invokevirtual 176, [1, 6, 0, 0], S_X6_keep) :: (8, .iconst 0, [], nS) :: (9, .istore 4, [], nS) :: (11, .nop, [], nS) :: L_X6_usedIn_11
def L_X6_usedIn : List Item := L_X6_usedIn_0
theorem ok_X6_usedIn : okB cX6_usedIn L_X6_usedIn = true := by decide +kernel
theorem lk_X6_usedIn (l : Launch) : LKs l RX6 5 false L_X6_usedIn := ⟨trivial, trivial, ⟨_, _, _, rfl, ⟨(RX6, TX6, 26), rfl, by decide, gT_of (List.mem_of_getElem? (i := 943) (by decide +kernel)) rfl⟩, rfl⟩, ⟨_, _, _, _, _, _, _, _, _, rfl, c_X6_keep l, Or.inl ⟨by decide, yv_X6_keep⟩, by decide, gT_of (List.mem_of_getElem? (i := 1098) (by decide +kernel)) rfl⟩, trivial, trivial, trivial, trivial, trivial, ⟨_, _, _, rfl, ⟨(RX6, TX6, 26), rfl, by decide, gT_of (List.mem_of_getElem? (i := 920) (by decide +kernel)) rfl⟩, rfl⟩, trivial, trivial, ⟨_, _, _, rfl, ⟨(RX6, TX6, 26), rfl, by decide, gT_of (List.mem_of_getElem? (i := 926) (by decide +kernel)) rfl⟩, rfl⟩, trivial, trivial, trivial, trivial, trivial, trivial, trivial, ⟨_, _, _, _, _, _, _, _, _, rfl, c_X6_goesOn l, Or.inl ⟨by decide, yv_X6_goesOn⟩, by decide, gT_of (List.mem_of_getElem? (i := 1176) (by decide +kernel)) rfl⟩, trivial, trivial, trivial, trivial, trivial, trivial, trivial, ⟨_, _, _, rfl, ⟨(RX6, TX6, 26), rfl, by decide, gT_of (List.mem_of_getElem? (i := 920) (by decide +kernel)) rfl⟩, rfl⟩, trivial, trivial, trivial, trivial, ⟨_, _, _, rfl, ⟨(RX6, TX6, 26), rfl, by decide, gT_of (List.mem_of_getElem? (i := 926) (by decide +kernel)) rfl⟩, rfl⟩, trivial, trivial, trivial, ⟨_, _, _, rfl, ⟨(RX6, TX6, 26), rfl, by decide, gT_of (List.mem_of_getElem? (i := 926) (by decide +kernel)) rfl⟩, rfl⟩, trivial, trivial, trivial, trivial, trivial, ⟨_, _, _, rfl, ⟨(RX6, TX6, 26), rfl, by decide, gT_of (List.mem_of_getElem? (i := 926) (by decide +kernel)) rfl⟩, rfl⟩, trivial, trivial, trivial, ⟨_, _, _, rfl, ⟨(RX6, TX6, 26), rfl, by decide, gT_of (List.mem_of_getElem? (i := 926) (by decide +kernel)) rfl⟩, rfl⟩, trivial, trivial, trivial, trivial, trivial, trivial, trivial, trivial, trivial, trivial, ⟨_, _, _, rfl, ⟨(RX6, TX6, 26), rfl, by decide, gT_of (List.mem_of_getElem? (i := 926) (by decide +kernel)) rfl⟩, rfl⟩, trivial, trivial, trivial, trivial, trivial, trivial, trivial, ⟨_, _, _, rfl, ⟨(RX6, TX6, 26), rfl, by decide, gT_of (List.mem_of_getElem? (i := 943) (by decide +kernel)) rfl⟩, rfl⟩, ⟨_, _, _, _, _, _, _, _, _, rfl, c_X6_again l, Or.inl ⟨by decide, yv_X6_again⟩, by decide, gT_of (List.mem_of_getElem? (i := 1141) (by decide +kernel)) rfl⟩, trivial, trivial, trivial⟩
theorem b_X6_usedIn_0 : atL L_X6_usedIn 0 = L_X6_usedIn_0 := rfl
theorem b_X6_usedIn_11 : atL L_X6_usedIn 11 = L_X6_usedIn_11 := rfl
theorem b_X6_usedIn_34 : atL L_X6_usedIn 34 = L_X6_usedIn_34 := rfl
theorem b_X6_usedIn_45 : atL L_X6_usedIn 45 = L_X6_usedIn_45 := rfl
theorem b_X6_usedIn_78 : atL L_X6_usedIn 78 = L_X6_usedIn_78 := rfl
theorem b_X6_usedIn_95 : atL L_X6_usedIn 95 = L_X6_usedIn_95 := rfl
theorem b_X6_usedIn_99 : atL L_X6_usedIn 99 = L_X6_usedIn_99 := rfl
theorem b_X6_usedIn_105 : atL L_X6_usedIn 105 = L_X6_usedIn_105 := rfl
theorem b_X6_usedIn_119 : atL L_X6_usedIn 119 = L_X6_usedIn_119 := rfl
theorem b_X6_usedIn_121 : atL L_X6_usedIn 121 = L_X6_usedIn_121 := rfl
theorem a_X6_usedIn_34 : afw L_X6_usedIn [11, 45] 34 = L_X6_usedIn_34 := rfl
theorem a_X6_usedIn_78 : afw L_X6_usedIn [11, 45] 78 = L_X6_usedIn_78 := rfl
theorem a_X6_usedIn_95 : afw L_X6_usedIn [11, 45] 95 = L_X6_usedIn_95 := rfl
theorem a_X6_usedIn_99 : afw L_X6_usedIn [11, 45] 99 = L_X6_usedIn_99 := rfl
theorem a_X6_usedIn_105 : afw L_X6_usedIn [11, 45] 105 = L_X6_usedIn_105 := rfl
theorem a_X6_usedIn_119 : afw L_X6_usedIn [11, 45] 119 = L_X6_usedIn_119 := rfl
theorem a_X6_usedIn_121 : afw L_X6_usedIn [11, 45] 121 = L_X6_usedIn_121 := rfl
theorem a_X6_usedIn_11 : afw L_X6_usedIn [11, 45] 11 = [] := rfl
theorem a_X6_usedIn_45 : afw L_X6_usedIn [11, 45] 45 = [] := rfl
theorem yv_X6_usedIn : YV yX6_usedIn cX6_usedIn 6 (some .int) 3 6 := ⟨⟨gT_of (List.mem_of_getElem? (i := 1224) (by decide +kernel)) rfl, gT_of (List.mem_of_getElem? (i := 74) (by decide +kernel)) rfl, ⟨by decide, by decide⟩, by decide +kernel, by decide⟩, gT_of (List.mem_of_getElem? (i := 1223) (by decide +kernel)) rfl, gT_of (List.mem_of_getElem? (i := 51) (by decide +kernel)) rfl, rfl⟩
theorem u_X6_usedIn_0 : L_X6_usedIn_0 = (0, .aload_n 0, [], nS) :: (1, .aload_n 0, [], nS) :: (2, .getfield 62, [6, 25, 1], nS) :: (5, .invokevirtual 176, [1, 6, 0, 0], S_X6_keep) :: (8, .iconst 0, [], nS) :: (9, .istore 4, [], nS) :: (11, .nop, [], nS) :: L_X6_usedIn_11 := nr rfl
theorem u_X6_usedIn_11 : L_X6_usedIn_11 = (11, .iload 4, [], nS) :: (13, .aload_n 0, [], nS) :: (14, .getfield 69, [6, 2, 0], nS) :: (17, .if_icmp .ge 17, [34], nS) :: (20, .aload_n 0, [], nS) :: (21, .getfield 31, [6, 8, 1], nS) :: (24, .iload 4, [], nS) :: (26, .iconst 0, [], nS) :: (27, .iastore, [], nS) :: (28, .iinc 4 1, [], nS) :: (31, .goto (-20), [11], nS) :: L_X6_usedIn_34 := nr rfl
theorem u_X6_usedIn_34 : L_X6_usedIn_34 = (34, .aload_n 0, [], nS) :: (35, .iload_n 1, [], nS) :: (36, .invokevirtual 217, [1, 6, 0, 0], S_X6_goesOn) :: (39, .iconst 0, [], nS) :: (40, .istore 4, [], nS) :: (42, .iconst 1, [], nS) :: (43, .istore 5, [], nS) :: (45, .nop, [], nS) :: L_X6_usedIn_45 := nr rfl
theorem u_X6_usedIn_45 : L_X6_usedIn_45 = (45, .iload 5, [], nS) :: (47, .aload_n 0, [], nS) :: (48, .getfield 69, [6, 2, 0], nS) :: (51, .if_icmp .ge 54, [105], nS) :: (54, .iload_n 2, [], nS) :: (55, .ifCond .eq 23, [78], nS) :: (58, .aload_n 0, [], nS) :: (59, .getfield 31, [6, 8, 1], nS) :: (62, .iload 5, [], nS) :: (64, .iaload, [], nS) :: (65, .aload_n 0, [], nS) :: (66, .getfield 31, [6, 8, 1], nS) :: (69, .iload 4, [], nS) :: (71, .iaload, [], nS) :: (72, .if_icmp .le 27, [99], nS) :: (75, .goto 20, [95], nS) :: L_X6_usedIn_78 := nr rfl
theorem u_X6_usedIn_78 : L_X6_usedIn_78 = (78, .aload_n 0, [], nS) :: (79, .getfield 31, [6, 8, 1], nS) :: (82, .iload 5, [], nS) :: (84, .iaload, [], nS) :: (85, .aload_n 0, [], nS) :: (86, .getfield 31, [6, 8, 1], nS) :: (89, .iload 4, [], nS) :: (91, .iaload, [], nS) :: (92, .if_icmp .ge 7, [99], nS) :: L_X6_usedIn_95 := nr rfl
theorem u_X6_usedIn_95 : L_X6_usedIn_95 = (95, .iload 5, [], nS) :: (97, .istore 4, [], nS) :: L_X6_usedIn_99 := nr rfl
theorem u_X6_usedIn_99 : L_X6_usedIn_99 = (99, .iinc 5 1, [], nS) :: (102, .goto (-57), [45], nS) :: L_X6_usedIn_105 := nr rfl
theorem u_X6_usedIn_105 : L_X6_usedIn_105 = (105, .iload_n 3, [], nS) :: (106, .ifCond .eq 13, [119], nS) :: (109, .aload_n 0, [], nS) :: (110, .getfield 31, [6, 8, 1], nS) :: (113, .iload 4, [], nS) :: (115, .iaload, [], nS) :: (116, .goto 5, [121], nS) :: L_X6_usedIn_119 := nr rfl
theorem u_X6_usedIn_119 : L_X6_usedIn_119 = (119, .iload 4, [], nS) :: L_X6_usedIn_121 := nr rfl
theorem u_X6_usedIn_121 : L_X6_usedIn_121 = (121, .istore 5, [], nS) :: (123, .aload_n 0, [], nS) :: (124, .aload_n 0, [], nS) :: (125, .getfield 62, [6, 25, 1], nS) :: (128, .invokevirtual 184, [1, 6, 0, 0], S_X6_again) :: (131, .iload 5, [], nS) :: (133, .ireturn, [], nS) :: [] := nr rfl
theorem z_X6_usedIn_0 : atL L_X6_usedIn 0 = L_X6_usedIn_0 := nr rfl
theorem z_X6_usedIn_11 : atL L_X6_usedIn 11 = L_X6_usedIn_11 := nr rfl
theorem z_X6_usedIn_34 : atL L_X6_usedIn 34 = L_X6_usedIn_34 := nr rfl
theorem z_X6_usedIn_45 : atL L_X6_usedIn 45 = L_X6_usedIn_45 := nr rfl
theorem z_X6_usedIn_78 : atL L_X6_usedIn 78 = L_X6_usedIn_78 := nr rfl
theorem z_X6_usedIn_95 : atL L_X6_usedIn 95 = L_X6_usedIn_95 := nr rfl
theorem z_X6_usedIn_99 : atL L_X6_usedIn 99 = L_X6_usedIn_99 := nr rfl
theorem z_X6_usedIn_105 : atL L_X6_usedIn 105 = L_X6_usedIn_105 := nr rfl
theorem z_X6_usedIn_119 : atL L_X6_usedIn 119 = L_X6_usedIn_119 := nr rfl
theorem z_X6_usedIn_121 : atL L_X6_usedIn 121 = L_X6_usedIn_121 := nr rfl
theorem j_X6_usedIn_34 {G : List Item → SpS → List Value → List Value → AH → Prop} {J : Nat → SpS → List Value → List Value → AH → Prop} {S : SpS} {lv st : List Value} {h : AH} : jmp G J (afw L_X6_usedIn [11, 45] 34) 34 S lv st h = G L_X6_usedIn_34 S lv st h := nr rfl
theorem j_X6_usedIn_78 {G : List Item → SpS → List Value → List Value → AH → Prop} {J : Nat → SpS → List Value → List Value → AH → Prop} {S : SpS} {lv st : List Value} {h : AH} : jmp G J (afw L_X6_usedIn [11, 45] 78) 78 S lv st h = G L_X6_usedIn_78 S lv st h := nr rfl
theorem j_X6_usedIn_95 {G : List Item → SpS → List Value → List Value → AH → Prop} {J : Nat → SpS → List Value → List Value → AH → Prop} {S : SpS} {lv st : List Value} {h : AH} : jmp G J (afw L_X6_usedIn [11, 45] 95) 95 S lv st h = G L_X6_usedIn_95 S lv st h := nr rfl
theorem j_X6_usedIn_99 {G : List Item → SpS → List Value → List Value → AH → Prop} {J : Nat → SpS → List Value → List Value → AH → Prop} {S : SpS} {lv st : List Value} {h : AH} : jmp G J (afw L_X6_usedIn [11, 45] 99) 99 S lv st h = G L_X6_usedIn_99 S lv st h := nr rfl
theorem j_X6_usedIn_105 {G : List Item → SpS → List Value → List Value → AH → Prop} {J : Nat → SpS → List Value → List Value → AH → Prop} {S : SpS} {lv st : List Value} {h : AH} : jmp G J (afw L_X6_usedIn [11, 45] 105) 105 S lv st h = G L_X6_usedIn_105 S lv st h := nr rfl
theorem j_X6_usedIn_119 {G : List Item → SpS → List Value → List Value → AH → Prop} {J : Nat → SpS → List Value → List Value → AH → Prop} {S : SpS} {lv st : List Value} {h : AH} : jmp G J (afw L_X6_usedIn [11, 45] 119) 119 S lv st h = G L_X6_usedIn_119 S lv st h := nr rfl
theorem j_X6_usedIn_121 {G : List Item → SpS → List Value → List Value → AH → Prop} {J : Nat → SpS → List Value → List Value → AH → Prop} {S : SpS} {lv st : List Value} {h : AH} : jmp G J (afw L_X6_usedIn [11, 45] 121) 121 S lv st h = G L_X6_usedIn_121 S lv st h := nr rfl
theorem j_X6_usedIn_11 {G : List Item → SpS → List Value → List Value → AH → Prop} {J : Nat → SpS → List Value → List Value → AH → Prop} {S : SpS} {lv st : List Value} {h : AH} : jmp G J (afw L_X6_usedIn [11, 45] 11) 11 S lv st h = J 11 S lv st h := nr rfl
theorem j_X6_usedIn_45 {G : List Item → SpS → List Value → List Value → AH → Prop} {J : Nat → SpS → List Value → List Value → AH → Prop} {S : SpS} {lv st : List Value} {h : AH} : jmp G J (afw L_X6_usedIn [11, 45] 45) 45 S lv st h = J 45 S lv st h := nr rfl
theorem e_X6_usedIn {x : Addr} {n : Int32} {w1 : Int32} {w2 : Int32} {h : AH} {K2 : Option Value → SpS → AH → Prop} : S_X6_usedIn SH0 [.ref x, .int n, .int w1, .int w2] h K2 = (fun (K : Option Value → AH → Prop) => x = 64 ∧ okE (estM h) ∧ 0 < cnt (estM h) ∧ ∃ m : Nat, m ≤ 200 ∧ n = nI m ∧ (w1 = 0 ∨ w1 = 1) ∧ (w2 = 0 ∨ w2 = 1) ∧ (w1 = 0 → w2 = 1) ∧ ∀ h', estM h' = estM h → frW h h' → K (some (.int (usedV (estM h) m w1 w2))) h') (fun v h' => K2 v SH0 h') := (lift_e P_X6_usedIn [.ref x, .int n, .int w1, .int w2] h K2).trans (nr rfl)
set_option maxRecDepth 100000 in
set_option maxHeartbeats 4000000 in
theorem c_X6_usedIn (l : Launch) : Ct l yX6_usedIn cX6_usedIn 6 (some .int) 5 0 0 S_X6_usedIn := by
  refine Ct0_mk L_X6_usedIn [11, 45] (by decide +kernel) (by decide) ok_X6_usedIn (lk_X6_usedIn l) ?_
  intro as h K hP
  match as, hP with
  | [.ref x, .int n, .int w1, .int w2], ⟨hx, ho, hp, m, hm, hnm, hw1, hw2, hw, hK⟩ =>
  refine ⟨by simp [slotsN, Value.category], fun J hJ => ?_⟩
  subst hx hnm
  have hn := ho.2.1
  generalize hE : estM h = E at *
  refine hJ 0 _ _ _ _ ?_
  simp only [z_X6_usedIn_0, u_X6_usedIn_0, u_X6_usedIn_11, u_X6_usedIn_34, u_X6_usedIn_45, u_X6_usedIn_78, u_X6_usedIn_95, u_X6_usedIn_99, u_X6_usedIn_105, u_X6_usedIn_119, u_X6_usedIn_121, j_X6_usedIn_11, j_X6_usedIn_34, j_X6_usedIn_45, j_X6_usedIn_78, j_X6_usedIn_95, j_X6_usedIn_99, j_X6_usedIn_105, j_X6_usedIn_119, j_X6_usedIn_121, ev_aload_n0, ev_getfR, ev_callV1, ev_iconst, ev_istore4, ev_nop, ev_iload4, ev_getfI, ev_ic_ge, ev_iastore, ev_iinc4, ev_goto, ev_iload_n1, ev_istore5, ev_iload5, ev_iload_n2, ev_if_eq, ev_iaload, ev_ic_le, ev_iinc5, ev_iload_n3, ev_iret, ro_i, ro_z, ↓e_X6_again, ↓e_X6_goesOn, ↓e_X6_keep, vq3_0, vq3_1, vq3_2, cq_0, cq_1, cq_2, capO_z, kb_6, kb_7, kb_8, kb_9, kb_10, kb_12, kb_16, kb_20, kb_21, kb_30, kb_32, kb_40, kb_48, kb_50, kb_57, kb_59, kb_60, kb_63, kb_70, kb_78, kb_81, kb_82, kb_84, kb_97, kb_99, kb_100, kb_101, kb_119, kb_120, kb_122, ki_m1, ki_0, ki_1, ki_2, ki_3, ki_4, ki_5, ki_6, ki_7, ki_8, ki_9, ki_10, ki_11, ki_12, ki_13, ki_14, ki_15, ki_16, ki_17, ki_18, ki_19, ki_20, ki_21, ki_22, ki_23, ki_24, ki_25, ki_26, ki_27, ki_28, ki_29, ki_30, ki_31, ki_32, ki_33, ki_34, ki_35, ki_36, ki_37, ki_38, ki_39, ki_40, ki_41, ki_42, ki_43, ki_44, ki_45, ki_46, ki_47, ki_48, ki_49, ki_50, ki_51, ki_52, ki_53, ki_54, ki_55, ki_56, ki_57, ki_58, ki_59, ki_60, ki_61, ki_62, ki_63, ks_m2000, ks_m1006, ks_m1005, ks_m1004, ks_m1003, ks_m1002, ks_m1000, ks_200, ks_250, ks_255, ks_256, ks_320, ks_660, ks_999, ks_1000, ks_9999, ks_12345, ne_2, ne_10, t_0, t_40, t_41, t_42, t_43, t_44, t_45, t_46, t_47, t_64, t_65, t_66, t_67, t_68, t_69, t_70, t_71, t_72, t_73, t_74, t_75, t_76, t_77, t_78, t_79, t_80, t_81, t_82, r_0_0, r_0_1, r_0_2, r_0_4, r_0_5, r_0_6, r_0_7, r_40_0, r_40_5, r_44_0, r_44_1, r_64_0, r_64_1, r_64_3, r_64_4, r_64_5, r_64_6, r_64_7, r_64_8, r_64_9, r_64_12, r_64_17, r_64_18, r_64_19, r_64_20, r_64_22, r_64_23, r_64_24, r_64_25, t_1, t_14, t_27, t_2, t_15, t_28, Nat.reduceEqDiff, ne_eq, not_false_eq_true, false_implies, true_implies, implies_true, Nat.reduceAdd, Nat.reduceLeDiff, Nat.reduceLT, Nat.reduceMul, or_true, true_or, if_true, if_false, not_true_eq_false, and_self, bF, Nat.reduceBEq, Bool.false_and, Bool.and_false, Bool.or_self, Bool.or_false, Bool.false_or, Bool.false_eq_true, Int.reduceAdd, Bool.and_self, Bool.true_and, Bool.and_true, beq_self_eq_true, not_not_, i10_, i01_, List.length_nil, List.length_cons, true_and, and_true, false_and, and_false, kl_i, kl_a, kl_n, kl_l, tl_s, tl_n, rv_S, pd_0, pd_e, pd_r, pd_i, pd_l]
  refine ⟨82, rfl, isA82, by rw [hE]; exact ho, fun h1 k1 k2 k3 => ?_⟩
  have m1 := (em_k isA82 k2).trans hE
  refine dn (P := fun a => ∀ h', estM h' = forgetE a E → frM h1 h' → J 11 SH0 [.ref 64, .int (nI m), .int w1, .int w2, .int (nI a), .null] [] h') (cnt E) ?_ (fun a ha ih h' hu hf => ?_) h1 m1 (frM_rf h1)
  · intro h' hu hf
    have c' : gI h' 64 2 = nI (cnt E) := by rw [← em_4, hu]; exact ((same_forget (cnt E) E).2.2.1).trans ho.1
    have o' : okE (estM h') := by rw [hu]; exact sameE_ok (same_forget _ _) ho
    refine hJ 11 _ _ _ _ ?_
    simp only [z_X6_usedIn_11, u_X6_usedIn_0, u_X6_usedIn_11, u_X6_usedIn_34, u_X6_usedIn_45, u_X6_usedIn_78, u_X6_usedIn_95, u_X6_usedIn_99, u_X6_usedIn_105, u_X6_usedIn_119, u_X6_usedIn_121, j_X6_usedIn_11, j_X6_usedIn_34, j_X6_usedIn_45, j_X6_usedIn_78, j_X6_usedIn_95, j_X6_usedIn_99, j_X6_usedIn_105, j_X6_usedIn_119, j_X6_usedIn_121, ev_aload_n0, ev_getfR, ev_callV1, ev_iconst, ev_istore4, ev_nop, ev_iload4, ev_getfI, ev_ic_ge, ev_iastore, ev_iinc4, ev_goto, ev_iload_n1, ev_istore5, ev_iload5, ev_iload_n2, ev_if_eq, ev_iaload, ev_ic_le, ev_iinc5, ev_iload_n3, ev_iret, ro_i, ro_z, ↓e_X6_again, ↓e_X6_goesOn, ↓e_X6_keep, vq3_0, vq3_1, vq3_2, cq_0, cq_1, cq_2, capO_z, kb_6, kb_7, kb_8, kb_9, kb_10, kb_12, kb_16, kb_20, kb_21, kb_30, kb_32, kb_40, kb_48, kb_50, kb_57, kb_59, kb_60, kb_63, kb_70, kb_78, kb_81, kb_82, kb_84, kb_97, kb_99, kb_100, kb_101, kb_119, kb_120, kb_122, ki_m1, ki_0, ki_1, ki_2, ki_3, ki_4, ki_5, ki_6, ki_7, ki_8, ki_9, ki_10, ki_11, ki_12, ki_13, ki_14, ki_15, ki_16, ki_17, ki_18, ki_19, ki_20, ki_21, ki_22, ki_23, ki_24, ki_25, ki_26, ki_27, ki_28, ki_29, ki_30, ki_31, ki_32, ki_33, ki_34, ki_35, ki_36, ki_37, ki_38, ki_39, ki_40, ki_41, ki_42, ki_43, ki_44, ki_45, ki_46, ki_47, ki_48, ki_49, ki_50, ki_51, ki_52, ki_53, ki_54, ki_55, ki_56, ki_57, ki_58, ki_59, ki_60, ki_61, ki_62, ki_63, ks_m2000, ks_m1006, ks_m1005, ks_m1004, ks_m1003, ks_m1002, ks_m1000, ks_200, ks_250, ks_255, ks_256, ks_320, ks_660, ks_999, ks_1000, ks_9999, ks_12345, ne_2, ne_10, t_0, t_40, t_41, t_42, t_43, t_44, t_45, t_46, t_47, t_64, t_65, t_66, t_67, t_68, t_69, t_70, t_71, t_72, t_73, t_74, t_75, t_76, t_77, t_78, t_79, t_80, t_81, t_82, r_0_0, r_0_1, r_0_2, r_0_4, r_0_5, r_0_6, r_0_7, r_40_0, r_40_5, r_44_0, r_44_1, r_64_0, r_64_1, r_64_3, r_64_4, r_64_5, r_64_6, r_64_7, r_64_8, r_64_9, r_64_12, r_64_17, r_64_18, r_64_19, r_64_20, r_64_22, r_64_23, r_64_24, r_64_25, t_1, t_14, t_27, t_2, t_15, t_28, Nat.reduceEqDiff, ne_eq, not_false_eq_true, false_implies, true_implies, implies_true, Nat.reduceAdd, Nat.reduceLeDiff, Nat.reduceLT, Nat.reduceMul, or_true, true_or, if_true, if_false, not_true_eq_false, and_self, bF, Nat.reduceBEq, Bool.false_and, Bool.and_false, Bool.or_self, Bool.or_false, Bool.false_or, Bool.false_eq_true, Int.reduceAdd, Bool.and_self, Bool.true_and, Bool.and_true, beq_self_eq_true, not_not_, i10_, i01_, List.length_nil, List.length_cons, true_and, and_true, false_and, and_false, kl_i, kl_a, kl_n, kl_l, tl_s, tl_n, rv_S, pd_0, pd_e, pd_r, pd_i, pd_l, c', lpT10 hn, eq_true o']
    refine ⟨m, hm, rfl, fun h2 e2 f2 => ?_⟩
    replace e2 : estM h2 = passN m (supE E) := by rw [e2, hu]; rfl
    generalize hP2 : passN m (supE E) = P2 at *
    have cP : cnt P2 = cnt E := by rw [← hP2, sameE_cnt (same_passN m _), cnt_sup]
    have c2 : gI h2 64 2 = nI (cnt E) := by rw [← cP, ← e2]; exact em_c (by rw [e2, ← hP2]; exact sameE_ok (same_passN m _) (ok_sup ho))
    have f3 := frM_tr hf f2
    have u2 : ∀ f, f < cnt E → gI h2 72 f = eF P2 f 5 := fun f hf2 => by rw [← e2]; exact (em_f (h := h2) (i := f) (k := 5) (by rw [e2, cP]; exact hf2) (by omega)).symm
    have ga : okE (estA h2 82) := by rw [ea_M isA82 f3, k1, hE]; exact ho
    have fin : ∀ h3, estM h3 = estA h2 82 → frM h2 h3 → K (some (.int (usedV E m w1 w2))) SH0 h3 := fun h3 e3 f4 => by
      refine hK h3 ?_ (frW_tr (frW_k k2 k3) (frW_M (frM_tr f3 f4)))
      rw [e3, ea_M isA82 f3, k1, hE]
    unfold usedV at fin
    rw [hP2] at fin
    refine dn (P := fun a => ∀ f : Nat, f < cnt E → (if w1 = 0 then eF P2 f 5 = leastR P2 (a + 1) else f = happyR P2 (a + 1)) → J 45 SH0 [.ref 64, .int (nI m), .int w1, .int w2, .int (nI f), .int (nI (a + 1))] [] h2) (cnt E - 1) ?_ (fun a ha ih f hf2 hq => ?_) 0 hp ?_
    · intro f hf2 hq
      rw [show cnt E - 1 + 1 = cnt E by omega] at hq ⊢
      have f10 : f < 10 := by omega
      rcases hw1 with w | w
      · rw [if_pos w] at hq
        have w2' := hw w
        rw [if_pos w] at fin
        have e : leastR P2 (cnt E) = leastU P2 := by rw [← cP]; rfl
        refine hJ 45 _ _ _ _ ?_
        simp only [z_X6_usedIn_45, u_X6_usedIn_0, u_X6_usedIn_11, u_X6_usedIn_34, u_X6_usedIn_45, u_X6_usedIn_78, u_X6_usedIn_95, u_X6_usedIn_99, u_X6_usedIn_105, u_X6_usedIn_119, u_X6_usedIn_121, j_X6_usedIn_11, j_X6_usedIn_34, j_X6_usedIn_45, j_X6_usedIn_78, j_X6_usedIn_95, j_X6_usedIn_99, j_X6_usedIn_105, j_X6_usedIn_119, j_X6_usedIn_121, ev_aload_n0, ev_getfR, ev_callV1, ev_iconst, ev_istore4, ev_nop, ev_iload4, ev_getfI, ev_ic_ge, ev_iastore, ev_iinc4, ev_goto, ev_iload_n1, ev_istore5, ev_iload5, ev_iload_n2, ev_if_eq, ev_iaload, ev_ic_le, ev_iinc5, ev_iload_n3, ev_iret, ro_i, ro_z, ↓e_X6_again, ↓e_X6_goesOn, ↓e_X6_keep, vq3_0, vq3_1, vq3_2, cq_0, cq_1, cq_2, capO_z, kb_6, kb_7, kb_8, kb_9, kb_10, kb_12, kb_16, kb_20, kb_21, kb_30, kb_32, kb_40, kb_48, kb_50, kb_57, kb_59, kb_60, kb_63, kb_70, kb_78, kb_81, kb_82, kb_84, kb_97, kb_99, kb_100, kb_101, kb_119, kb_120, kb_122, ki_m1, ki_0, ki_1, ki_2, ki_3, ki_4, ki_5, ki_6, ki_7, ki_8, ki_9, ki_10, ki_11, ki_12, ki_13, ki_14, ki_15, ki_16, ki_17, ki_18, ki_19, ki_20, ki_21, ki_22, ki_23, ki_24, ki_25, ki_26, ki_27, ki_28, ki_29, ki_30, ki_31, ki_32, ki_33, ki_34, ki_35, ki_36, ki_37, ki_38, ki_39, ki_40, ki_41, ki_42, ki_43, ki_44, ki_45, ki_46, ki_47, ki_48, ki_49, ki_50, ki_51, ki_52, ki_53, ki_54, ki_55, ki_56, ki_57, ki_58, ki_59, ki_60, ki_61, ki_62, ki_63, ks_m2000, ks_m1006, ks_m1005, ks_m1004, ks_m1003, ks_m1002, ks_m1000, ks_200, ks_250, ks_255, ks_256, ks_320, ks_660, ks_999, ks_1000, ks_9999, ks_12345, ne_2, ne_10, t_0, t_40, t_41, t_42, t_43, t_44, t_45, t_46, t_47, t_64, t_65, t_66, t_67, t_68, t_69, t_70, t_71, t_72, t_73, t_74, t_75, t_76, t_77, t_78, t_79, t_80, t_81, t_82, r_0_0, r_0_1, r_0_2, r_0_4, r_0_5, r_0_6, r_0_7, r_40_0, r_40_5, r_44_0, r_44_1, r_64_0, r_64_1, r_64_3, r_64_4, r_64_5, r_64_6, r_64_7, r_64_8, r_64_9, r_64_12, r_64_17, r_64_18, r_64_19, r_64_20, r_64_22, r_64_23, r_64_24, r_64_25, t_1, t_14, t_27, t_2, t_15, t_28, Nat.reduceEqDiff, ne_eq, not_false_eq_true, false_implies, true_implies, implies_true, Nat.reduceAdd, Nat.reduceLeDiff, Nat.reduceLT, Nat.reduceMul, or_true, true_or, if_true, if_false, not_true_eq_false, and_self, bF, Nat.reduceBEq, Bool.false_and, Bool.and_false, Bool.or_self, Bool.or_false, Bool.false_or, Bool.false_eq_true, Int.reduceAdd, Bool.and_self, Bool.true_and, Bool.and_true, beq_self_eq_true, not_not_, i10_, i01_, List.length_nil, List.length_cons, true_and, and_true, false_and, and_false, kl_i, kl_a, kl_n, kl_l, tl_s, tl_n, rv_S, pd_0, pd_e, pd_r, pd_i, pd_l, c2, lpT10 hn, vp10 f10, nI_10 f10, u2 f hf2, w2', one_z]
        rw [hq, e]
        exact ⟨82, rfl, isA82, ga, fin⟩
      · have wn : ¬ w1 = 0 := by rw [w]; decide
        rw [if_neg wn] at hq
        rw [if_neg wn] at fin
        have e : happyR P2 (cnt E) = happyN P2 := by rw [← cP]; rfl
        rw [e] at hq
        subst hq
        refine hJ 45 _ _ _ _ ?_
        simp only [z_X6_usedIn_45, u_X6_usedIn_0, u_X6_usedIn_11, u_X6_usedIn_34, u_X6_usedIn_45, u_X6_usedIn_78, u_X6_usedIn_95, u_X6_usedIn_99, u_X6_usedIn_105, u_X6_usedIn_119, u_X6_usedIn_121, j_X6_usedIn_11, j_X6_usedIn_34, j_X6_usedIn_45, j_X6_usedIn_78, j_X6_usedIn_95, j_X6_usedIn_99, j_X6_usedIn_105, j_X6_usedIn_119, j_X6_usedIn_121, ev_aload_n0, ev_getfR, ev_callV1, ev_iconst, ev_istore4, ev_nop, ev_iload4, ev_getfI, ev_ic_ge, ev_iastore, ev_iinc4, ev_goto, ev_iload_n1, ev_istore5, ev_iload5, ev_iload_n2, ev_if_eq, ev_iaload, ev_ic_le, ev_iinc5, ev_iload_n3, ev_iret, ro_i, ro_z, ↓e_X6_again, ↓e_X6_goesOn, ↓e_X6_keep, vq3_0, vq3_1, vq3_2, cq_0, cq_1, cq_2, capO_z, kb_6, kb_7, kb_8, kb_9, kb_10, kb_12, kb_16, kb_20, kb_21, kb_30, kb_32, kb_40, kb_48, kb_50, kb_57, kb_59, kb_60, kb_63, kb_70, kb_78, kb_81, kb_82, kb_84, kb_97, kb_99, kb_100, kb_101, kb_119, kb_120, kb_122, ki_m1, ki_0, ki_1, ki_2, ki_3, ki_4, ki_5, ki_6, ki_7, ki_8, ki_9, ki_10, ki_11, ki_12, ki_13, ki_14, ki_15, ki_16, ki_17, ki_18, ki_19, ki_20, ki_21, ki_22, ki_23, ki_24, ki_25, ki_26, ki_27, ki_28, ki_29, ki_30, ki_31, ki_32, ki_33, ki_34, ki_35, ki_36, ki_37, ki_38, ki_39, ki_40, ki_41, ki_42, ki_43, ki_44, ki_45, ki_46, ki_47, ki_48, ki_49, ki_50, ki_51, ki_52, ki_53, ki_54, ki_55, ki_56, ki_57, ki_58, ki_59, ki_60, ki_61, ki_62, ki_63, ks_m2000, ks_m1006, ks_m1005, ks_m1004, ks_m1003, ks_m1002, ks_m1000, ks_200, ks_250, ks_255, ks_256, ks_320, ks_660, ks_999, ks_1000, ks_9999, ks_12345, ne_2, ne_10, t_0, t_40, t_41, t_42, t_43, t_44, t_45, t_46, t_47, t_64, t_65, t_66, t_67, t_68, t_69, t_70, t_71, t_72, t_73, t_74, t_75, t_76, t_77, t_78, t_79, t_80, t_81, t_82, r_0_0, r_0_1, r_0_2, r_0_4, r_0_5, r_0_6, r_0_7, r_40_0, r_40_5, r_44_0, r_44_1, r_64_0, r_64_1, r_64_3, r_64_4, r_64_5, r_64_6, r_64_7, r_64_8, r_64_9, r_64_12, r_64_17, r_64_18, r_64_19, r_64_20, r_64_22, r_64_23, r_64_24, r_64_25, t_1, t_14, t_27, t_2, t_15, t_28, Nat.reduceEqDiff, ne_eq, not_false_eq_true, false_implies, true_implies, implies_true, Nat.reduceAdd, Nat.reduceLeDiff, Nat.reduceLT, Nat.reduceMul, or_true, true_or, if_true, if_false, not_true_eq_false, and_self, bF, Nat.reduceBEq, Bool.false_and, Bool.and_false, Bool.or_self, Bool.or_false, Bool.false_or, Bool.false_eq_true, Int.reduceAdd, Bool.and_self, Bool.true_and, Bool.and_true, beq_self_eq_true, not_not_, i10_, i01_, List.length_nil, List.length_cons, true_and, and_true, false_and, and_false, kl_i, kl_a, kl_n, kl_l, tl_s, tl_n, rv_S, pd_0, pd_e, pd_r, pd_i, pd_l, c2, lpT10 hn, vp10 f10, nI_10 f10, u2 _ hf2]
        refine ⟨fun q => ⟨82, rfl, isA82, ga, ?_⟩, fun q => ⟨82, rfl, isA82, ga, ?_⟩⟩
        · rw [if_pos q] at fin; exact fin
        · rw [if_neg q] at fin; exact fin
    · have f10 : f < 10 := by omega
      have ha1 : a + 1 < cnt E := by omega
      have a10 : a + 1 < 10 := by omega
      refine hJ 45 _ _ _ _ ?_
      simp only [z_X6_usedIn_45, u_X6_usedIn_0, u_X6_usedIn_11, u_X6_usedIn_34, u_X6_usedIn_45, u_X6_usedIn_78, u_X6_usedIn_95, u_X6_usedIn_99, u_X6_usedIn_105, u_X6_usedIn_119, u_X6_usedIn_121, j_X6_usedIn_11, j_X6_usedIn_34, j_X6_usedIn_45, j_X6_usedIn_78, j_X6_usedIn_95, j_X6_usedIn_99, j_X6_usedIn_105, j_X6_usedIn_119, j_X6_usedIn_121, ev_aload_n0, ev_getfR, ev_callV1, ev_iconst, ev_istore4, ev_nop, ev_iload4, ev_getfI, ev_ic_ge, ev_iastore, ev_iinc4, ev_goto, ev_iload_n1, ev_istore5, ev_iload5, ev_iload_n2, ev_if_eq, ev_iaload, ev_ic_le, ev_iinc5, ev_iload_n3, ev_iret, ro_i, ro_z, ↓e_X6_again, ↓e_X6_goesOn, ↓e_X6_keep, vq3_0, vq3_1, vq3_2, cq_0, cq_1, cq_2, capO_z, kb_6, kb_7, kb_8, kb_9, kb_10, kb_12, kb_16, kb_20, kb_21, kb_30, kb_32, kb_40, kb_48, kb_50, kb_57, kb_59, kb_60, kb_63, kb_70, kb_78, kb_81, kb_82, kb_84, kb_97, kb_99, kb_100, kb_101, kb_119, kb_120, kb_122, ki_m1, ki_0, ki_1, ki_2, ki_3, ki_4, ki_5, ki_6, ki_7, ki_8, ki_9, ki_10, ki_11, ki_12, ki_13, ki_14, ki_15, ki_16, ki_17, ki_18, ki_19, ki_20, ki_21, ki_22, ki_23, ki_24, ki_25, ki_26, ki_27, ki_28, ki_29, ki_30, ki_31, ki_32, ki_33, ki_34, ki_35, ki_36, ki_37, ki_38, ki_39, ki_40, ki_41, ki_42, ki_43, ki_44, ki_45, ki_46, ki_47, ki_48, ki_49, ki_50, ki_51, ki_52, ki_53, ki_54, ki_55, ki_56, ki_57, ki_58, ki_59, ki_60, ki_61, ki_62, ki_63, ks_m2000, ks_m1006, ks_m1005, ks_m1004, ks_m1003, ks_m1002, ks_m1000, ks_200, ks_250, ks_255, ks_256, ks_320, ks_660, ks_999, ks_1000, ks_9999, ks_12345, ne_2, ne_10, t_0, t_40, t_41, t_42, t_43, t_44, t_45, t_46, t_47, t_64, t_65, t_66, t_67, t_68, t_69, t_70, t_71, t_72, t_73, t_74, t_75, t_76, t_77, t_78, t_79, t_80, t_81, t_82, r_0_0, r_0_1, r_0_2, r_0_4, r_0_5, r_0_6, r_0_7, r_40_0, r_40_5, r_44_0, r_44_1, r_64_0, r_64_1, r_64_3, r_64_4, r_64_5, r_64_6, r_64_7, r_64_8, r_64_9, r_64_12, r_64_17, r_64_18, r_64_19, r_64_20, r_64_22, r_64_23, r_64_24, r_64_25, t_1, t_14, t_27, t_2, t_15, t_28, Nat.reduceEqDiff, ne_eq, not_false_eq_true, false_implies, true_implies, implies_true, Nat.reduceAdd, Nat.reduceLeDiff, Nat.reduceLT, Nat.reduceMul, or_true, true_or, if_true, if_false, not_true_eq_false, and_self, bF, Nat.reduceBEq, Bool.false_and, Bool.and_false, Bool.or_self, Bool.or_false, Bool.false_or, Bool.false_eq_true, Int.reduceAdd, Bool.and_self, Bool.true_and, Bool.and_true, beq_self_eq_true, not_not_, i10_, i01_, List.length_nil, List.length_cons, true_and, and_true, false_and, and_false, kl_i, kl_a, kl_n, kl_l, tl_s, tl_n, rv_S, pd_0, pd_e, pd_r, pd_i, pd_l, c2, lpF10 ha1 hn, vp10 f10, nI_10 f10, vp10 a10, nI_10 a10, u2 f hf2, u2 (a + 1) ha1, nI_1]
      refine ⟨fun w => ?_, fun w => ?_⟩
      · rw [if_pos w] at hq
        have e := leastR_s P2 (a + 1)
        rw [← hq] at e
        refine ⟨fun q => ih f hf2 ?_, fun q => ih (a + 1) ha1 ?_⟩
        · rw [if_pos w, e, if_neg (Int32.not_lt.mpr q)]
        · rw [if_pos w, e, if_pos (Int32.not_le.mp q)]
      · rw [if_neg w] at hq
        have e := happyR_s P2 (a + 1)
        rw [← hq] at e
        refine ⟨fun q => ih f hf2 ?_, fun q => ih (a + 1) ha1 ?_⟩
        · rw [if_neg w, e, if_neg (Int32.not_lt.mpr q)]
        · rw [if_neg w, e, if_pos (Int32.not_le.mp q)]
    · by_cases w : w1 = 0
      · rw [if_pos w, leastR_s]
        split
        · rfl
        · rfl
      · rw [if_neg w, happyR_s]
        split
        · rfl
        · rfl
  · have c' : gI h' 64 2 = nI (cnt E) := by rw [← em_4, hu]; exact ((same_forget a E).2.2.1).trans ho.1
    have a10 : a < 10 := by omega
    refine hJ 11 _ _ _ _ ?_
    simp only [z_X6_usedIn_11, u_X6_usedIn_0, u_X6_usedIn_11, u_X6_usedIn_34, u_X6_usedIn_45, u_X6_usedIn_78, u_X6_usedIn_95, u_X6_usedIn_99, u_X6_usedIn_105, u_X6_usedIn_119, u_X6_usedIn_121, j_X6_usedIn_11, j_X6_usedIn_34, j_X6_usedIn_45, j_X6_usedIn_78, j_X6_usedIn_95, j_X6_usedIn_99, j_X6_usedIn_105, j_X6_usedIn_119, j_X6_usedIn_121, ev_aload_n0, ev_getfR, ev_callV1, ev_iconst, ev_istore4, ev_nop, ev_iload4, ev_getfI, ev_ic_ge, ev_iastore, ev_iinc4, ev_goto, ev_iload_n1, ev_istore5, ev_iload5, ev_iload_n2, ev_if_eq, ev_iaload, ev_ic_le, ev_iinc5, ev_iload_n3, ev_iret, ro_i, ro_z, ↓e_X6_again, ↓e_X6_goesOn, ↓e_X6_keep, vq3_0, vq3_1, vq3_2, cq_0, cq_1, cq_2, capO_z, kb_6, kb_7, kb_8, kb_9, kb_10, kb_12, kb_16, kb_20, kb_21, kb_30, kb_32, kb_40, kb_48, kb_50, kb_57, kb_59, kb_60, kb_63, kb_70, kb_78, kb_81, kb_82, kb_84, kb_97, kb_99, kb_100, kb_101, kb_119, kb_120, kb_122, ki_m1, ki_0, ki_1, ki_2, ki_3, ki_4, ki_5, ki_6, ki_7, ki_8, ki_9, ki_10, ki_11, ki_12, ki_13, ki_14, ki_15, ki_16, ki_17, ki_18, ki_19, ki_20, ki_21, ki_22, ki_23, ki_24, ki_25, ki_26, ki_27, ki_28, ki_29, ki_30, ki_31, ki_32, ki_33, ki_34, ki_35, ki_36, ki_37, ki_38, ki_39, ki_40, ki_41, ki_42, ki_43, ki_44, ki_45, ki_46, ki_47, ki_48, ki_49, ki_50, ki_51, ki_52, ki_53, ki_54, ki_55, ki_56, ki_57, ki_58, ki_59, ki_60, ki_61, ki_62, ki_63, ks_m2000, ks_m1006, ks_m1005, ks_m1004, ks_m1003, ks_m1002, ks_m1000, ks_200, ks_250, ks_255, ks_256, ks_320, ks_660, ks_999, ks_1000, ks_9999, ks_12345, ne_2, ne_10, t_0, t_40, t_41, t_42, t_43, t_44, t_45, t_46, t_47, t_64, t_65, t_66, t_67, t_68, t_69, t_70, t_71, t_72, t_73, t_74, t_75, t_76, t_77, t_78, t_79, t_80, t_81, t_82, r_0_0, r_0_1, r_0_2, r_0_4, r_0_5, r_0_6, r_0_7, r_40_0, r_40_5, r_44_0, r_44_1, r_64_0, r_64_1, r_64_3, r_64_4, r_64_5, r_64_6, r_64_7, r_64_8, r_64_9, r_64_12, r_64_17, r_64_18, r_64_19, r_64_20, r_64_22, r_64_23, r_64_24, r_64_25, t_1, t_14, t_27, t_2, t_15, t_28, Nat.reduceEqDiff, ne_eq, not_false_eq_true, false_implies, true_implies, implies_true, Nat.reduceAdd, Nat.reduceLeDiff, Nat.reduceLT, Nat.reduceMul, or_true, true_or, if_true, if_false, not_true_eq_false, and_self, bF, Nat.reduceBEq, Bool.false_and, Bool.and_false, Bool.or_self, Bool.or_false, Bool.false_or, Bool.false_eq_true, Int.reduceAdd, Bool.and_self, Bool.true_and, Bool.and_true, beq_self_eq_true, not_not_, i10_, i01_, List.length_nil, List.length_cons, true_and, and_true, false_and, and_false, kl_i, kl_a, kl_n, kl_l, tl_s, tl_n, rv_S, pd_0, pd_e, pd_r, pd_i, pd_l, c', lpF10 ha hn, vp10 a10, nI_10 a10, nI_1]
    refine ih _ ?_ (frM_c hf (by omega))
    rw [em_pF (k := 5) rfl (by rw [hu, sameE_cnt (same_forget a E)]; exact ha) (by omega), hu]
    rfl
