/-! ===== the model's fairest and needs ===== -/
theorem until_ge : ∀ r y E, y ≤ untilE y r E
  | 0, y, E => by rw [untilE_0]; split <;> omega
  | r + 1, y, E => by
    rw [untilE_s]
    split
    · omega
    · have := until_ge r (y + 1) (passE E).1
      omega
theorem until_lt : ∀ t r y E, t ≤ r → ((y + t < untilE y r E) = (y + t < untilE y t E))
  | 0, 0, y, E, _ => rfl
  | 0, r + 1, y, E, _ => by
    rw [untilE_0, untilE_s]
    by_cases q : eS E 0 = 0
    · rw [if_pos q, if_pos q]
    · rw [if_neg q, if_neg q]
      have := until_ge r (y + 1) (passE E).1
      exact propext ⟨fun _ => by omega, fun _ => by omega⟩
  | t + 1, 0, y, E, h => absurd h (by omega)
  | t + 1, r + 1, y, E, h => by
    rw [untilE_s, untilE_s]
    by_cases q : eS E 0 = 0
    · rw [if_pos q, if_pos q]
    · rw [if_neg q, if_neg q]
      have := until_lt t r (y + 1) (passE E).1 (by omega)
      rw [show y + (t + 1) = y + 1 + t by omega]
      exact this
theorem until_hi : ∀ r y E, untilE y r E ≤ y + r + 1
  | 0, y, E => by rw [untilE_0]; split <;> omega
  | r + 1, y, E => by
    rw [untilE_s]
    split
    · omega
    · have := until_hi r (y + 1) (passE E).1
      omega
theorem out_lt (E : ES) {t : Nat} (ht : t ≤ 200) : (nI t < outI E) = (t < untilE 0 t E) := by
  have h1 := until_hi 200 0 E
  unfold outI
  have h2 := until_lt t 200 0 E ht
  rw [Nat.zero_add] at h2
  rw [← h2, lt_ti, nI_toInt (by omega), nI_toInt (by omega)]
  exact propext ⟨fun z => by omega, fun z => by omega⟩
theorem s0_add {u : Nat → Int32} (E : ES) (v : Int32) : sS (addU u E) 0 v = addU u (sS E 0 v) := rfl
def P_X6_needs : Sp0T := fun as h K => match as with
  | [.ref x, .int t] => x = 64 ∧ XM h (fun G => g_needs G t) K
  | _ => False
def S_X6_needs : SpT := lift P_X6_needs
def L_X6_needs_68 : List Item := (68, .aload_n 0, [], nS) :: (69, .getfield 7, [6, 0, 1], nS) :: (72, .iconst 0, [], nS) :: (73, .iload_n 2, [], nS) :: (74, .iastore, [], nS) :: (75, .iload_n 3, [], nS) :: (76, .ireturn, [], nS) :: []
def L_X6_needs_62 : List Item := (62, .iinc 4 1, [], nS) :: (65, .goto (-35), [30], nS) :: L_X6_needs_68
def L_X6_needs_30 : List Item := (30, .iload 4, [], nS) :: (32, .sipush 1000, [], nS) :: (35, .if_icmp .ge 33, [68], nS) :: (38, .iload_n 3, [], nS) :: (39, .iconst (-1), [], nS) :: (40, .if_icmp .ne 28, [68], nS) :: (43, .aload_n 0, [], nS) :: (44, .getfield 7, [6, 0, 1], nS) :: (47, .iconst 0, [], nS) :: (48, .iload 4, [], nS) :: (50, .iastore, [], nS) :: (51, .aload_n 0, [], nS) :: (52, .invokevirtual 231, [0, 6, 0, 0], S_X6_outs) :: (55, .iload_n 1, [], nS) :: (56, .if_icmp .le 6, [62], nS) :: (59, .iload 4, [], nS) :: (61, .istore_n 3, [], nS) :: L_X6_needs_62
def L_X6_needs_18 : List Item := (18, .aload_n 0, [], nS) :: (19, .getfield 7, [6, 0, 1], nS) :: (22, .iconst 0, [], nS) :: (23, .iaload, [], nS) :: (24, .istore_n 2, [], nS) :: (25, .iconst (-1), [], nS) :: (26, .istore_n 3, [], nS) :: (27, .iconst 0, [], nS) :: (28, .istore 4, [], nS) :: (30, .nop, [], nS) :: L_X6_needs_30
def L_X6_needs_0 : List Item := (0, .iload_n 1, [], nS) :: (1, .iconst 0, [], nS) :: (2, .bipush 60, [], nS) :: (4, .invokestatic 72, [0, 3, 0, 0], S_X6_within) :: (7, .ifCond .ne 11, [18], nS) :: (10, .aload_n 0, [], nS) :: (11, .sipush (-1002), [], nS) :: (14, .invokevirtual 82, [1, 6, 0, 0], S_X6_no) :: (17, .ireturn, [], nS) :: L_X6_needs_18
def L_X6_needs : List Item := L_X6_needs_0
theorem ok_X6_needs : okB cX6_needs L_X6_needs = true := by decide +kernel
theorem lk_X6_needs (l : Launch) : LKs l RX6 5 false L_X6_needs := ⟨trivial, trivial, trivial, Or.inl ⟨_, _, _, _, _, _, _, _, rfl, c_X6_within l, yv_X6_within, by decide, gT_of (List.mem_of_getElem? (i := 1004) (by decide +kernel)) rfl⟩, trivial, trivial, trivial, ⟨_, _, _, _, _, _, _, _, _, rfl, c_X6_no l, Or.inl ⟨by decide, yv_X6_no⟩, by decide, gT_of (List.mem_of_getElem? (i := 1007) (by decide +kernel)) rfl⟩, trivial, trivial, ⟨_, _, _, rfl, ⟨(RX6, TX6, 26), rfl, by decide, gT_of (List.mem_of_getElem? (i := 918) (by decide +kernel)) rfl⟩, rfl⟩, trivial, trivial, trivial, trivial, trivial, trivial, trivial, trivial, trivial, trivial, trivial, trivial, trivial, trivial, trivial, ⟨_, _, _, rfl, ⟨(RX6, TX6, 26), rfl, by decide, gT_of (List.mem_of_getElem? (i := 918) (by decide +kernel)) rfl⟩, rfl⟩, trivial, trivial, trivial, trivial, ⟨_, _, _, _, _, _, _, _, _, rfl, c_X6_outs l, Or.inl ⟨by decide, yv_X6_outs⟩, by decide, gT_of (List.mem_of_getElem? (i := 1209) (by decide +kernel)) rfl⟩, trivial, trivial, trivial, trivial, trivial, trivial, trivial, ⟨_, _, _, rfl, ⟨(RX6, TX6, 26), rfl, by decide, gT_of (List.mem_of_getElem? (i := 918) (by decide +kernel)) rfl⟩, rfl⟩, trivial, trivial, trivial, trivial, trivial, trivial⟩
theorem b_X6_needs_0 : atL L_X6_needs 0 = L_X6_needs_0 := rfl
theorem b_X6_needs_18 : atL L_X6_needs 18 = L_X6_needs_18 := rfl
theorem b_X6_needs_30 : atL L_X6_needs 30 = L_X6_needs_30 := rfl
theorem b_X6_needs_62 : atL L_X6_needs 62 = L_X6_needs_62 := rfl
theorem b_X6_needs_68 : atL L_X6_needs 68 = L_X6_needs_68 := rfl
theorem a_X6_needs_18 : afw L_X6_needs [30] 18 = L_X6_needs_18 := rfl
theorem a_X6_needs_62 : afw L_X6_needs [30] 62 = L_X6_needs_62 := rfl
theorem a_X6_needs_68 : afw L_X6_needs [30] 68 = L_X6_needs_68 := rfl
theorem a_X6_needs_30 : afw L_X6_needs [30] 30 = [] := rfl
theorem yv_X6_needs : YV yX6_needs cX6_needs 5 (some .int) 1 6 := ⟨⟨gT_of (List.mem_of_getElem? (i := 1375) (by decide +kernel)) rfl, gT_of (List.mem_of_getElem? (i := 74) (by decide +kernel)) rfl, ⟨by decide, by decide⟩, by decide +kernel, by decide⟩, gT_of (List.mem_of_getElem? (i := 1373) (by decide +kernel)) rfl, gT_of (List.mem_of_getElem? (i := 1374) (by decide +kernel)) rfl, rfl⟩
theorem u_X6_needs_0 : L_X6_needs_0 = (0, .iload_n 1, [], nS) :: (1, .iconst 0, [], nS) :: (2, .bipush 60, [], nS) :: (4, .invokestatic 72, [0, 3, 0, 0], S_X6_within) :: (7, .ifCond .ne 11, [18], nS) :: (10, .aload_n 0, [], nS) :: (11, .sipush (-1002), [], nS) :: (14, .invokevirtual 82, [1, 6, 0, 0], S_X6_no) :: (17, .ireturn, [], nS) :: L_X6_needs_18 := nr rfl
theorem u_X6_needs_18 : L_X6_needs_18 = (18, .aload_n 0, [], nS) :: (19, .getfield 7, [6, 0, 1], nS) :: (22, .iconst 0, [], nS) :: (23, .iaload, [], nS) :: (24, .istore_n 2, [], nS) :: (25, .iconst (-1), [], nS) :: (26, .istore_n 3, [], nS) :: (27, .iconst 0, [], nS) :: (28, .istore 4, [], nS) :: (30, .nop, [], nS) :: L_X6_needs_30 := nr rfl
theorem u_X6_needs_30 : L_X6_needs_30 = (30, .iload 4, [], nS) :: (32, .sipush 1000, [], nS) :: (35, .if_icmp .ge 33, [68], nS) :: (38, .iload_n 3, [], nS) :: (39, .iconst (-1), [], nS) :: (40, .if_icmp .ne 28, [68], nS) :: (43, .aload_n 0, [], nS) :: (44, .getfield 7, [6, 0, 1], nS) :: (47, .iconst 0, [], nS) :: (48, .iload 4, [], nS) :: (50, .iastore, [], nS) :: (51, .aload_n 0, [], nS) :: (52, .invokevirtual 231, [0, 6, 0, 0], S_X6_outs) :: (55, .iload_n 1, [], nS) :: (56, .if_icmp .le 6, [62], nS) :: (59, .iload 4, [], nS) :: (61, .istore_n 3, [], nS) :: L_X6_needs_62 := nr rfl
theorem u_X6_needs_62 : L_X6_needs_62 = (62, .iinc 4 1, [], nS) :: (65, .goto (-35), [30], nS) :: L_X6_needs_68 := nr rfl
theorem u_X6_needs_68 : L_X6_needs_68 = (68, .aload_n 0, [], nS) :: (69, .getfield 7, [6, 0, 1], nS) :: (72, .iconst 0, [], nS) :: (73, .iload_n 2, [], nS) :: (74, .iastore, [], nS) :: (75, .iload_n 3, [], nS) :: (76, .ireturn, [], nS) :: [] := nr rfl
theorem z_X6_needs_0 : atL L_X6_needs 0 = L_X6_needs_0 := nr rfl
theorem z_X6_needs_18 : atL L_X6_needs 18 = L_X6_needs_18 := nr rfl
theorem z_X6_needs_30 : atL L_X6_needs 30 = L_X6_needs_30 := nr rfl
theorem z_X6_needs_62 : atL L_X6_needs 62 = L_X6_needs_62 := nr rfl
theorem z_X6_needs_68 : atL L_X6_needs 68 = L_X6_needs_68 := nr rfl
theorem j_X6_needs_18 {G : List Item → SpS → List Value → List Value → AH → Prop} {J : Nat → SpS → List Value → List Value → AH → Prop} {S : SpS} {lv st : List Value} {h : AH} : jmp G J (afw L_X6_needs [30] 18) 18 S lv st h = G L_X6_needs_18 S lv st h := nr rfl
theorem j_X6_needs_62 {G : List Item → SpS → List Value → List Value → AH → Prop} {J : Nat → SpS → List Value → List Value → AH → Prop} {S : SpS} {lv st : List Value} {h : AH} : jmp G J (afw L_X6_needs [30] 62) 62 S lv st h = G L_X6_needs_62 S lv st h := nr rfl
theorem j_X6_needs_68 {G : List Item → SpS → List Value → List Value → AH → Prop} {J : Nat → SpS → List Value → List Value → AH → Prop} {S : SpS} {lv st : List Value} {h : AH} : jmp G J (afw L_X6_needs [30] 68) 68 S lv st h = G L_X6_needs_68 S lv st h := nr rfl
theorem j_X6_needs_30 {G : List Item → SpS → List Value → List Value → AH → Prop} {J : Nat → SpS → List Value → List Value → AH → Prop} {S : SpS} {lv st : List Value} {h : AH} : jmp G J (afw L_X6_needs [30] 30) 30 S lv st h = J 30 S lv st h := nr rfl
theorem e_X6_needs {x : Addr} {t : Int32} {h : AH} {K2 : Option Value → SpS → AH → Prop} : S_X6_needs SH0 [.ref x, .int t] h K2 = (fun (K : Option Value → AH → Prop) => x = 64 ∧ XM h (fun G => g_needs G t) K) (fun v h' => K2 v SH0 h') := (lift_e P_X6_needs [.ref x, .int t] h K2).trans (nr rfl)
set_option maxRecDepth 100000 in
set_option maxHeartbeats 4000000 in
theorem c_X6_needs (l : Launch) : Ct l yX6_needs cX6_needs 5 (some .int) 5 0 0 S_X6_needs := by
  refine Ct0_mk L_X6_needs [30] (by decide +kernel) (by decide) ok_X6_needs (lk_X6_needs l) ?_
  intro as h K hP
  match as, hP with
  | [.ref x, .int t], ⟨hx, G, hG, hI, hK⟩ =>
  refine ⟨by simp [slotsN, Value.category], fun J hJ => ?_⟩
  subst hx
  dsimp only at hK
  have hE : estM h = vE G := hG.1
  have ho := okG_ok (okM_G hI)
  have ho2 := okG_t (okM_G hI)
  have hn : cnt (vE G) ≤ 10 := okG_n (okM_G hI)
  have c4 : gI h 64 2 = nI (cnt (vE G)) := by rw [← hE]; exact em_c (hE ▸ ho)
  by_cases hh : inI t 60
  · simp only [g_needs, if_pos hh] at hK
    obtain ⟨m, hm, rfl⟩ := in_of (m := 60) (by omega) hh
    rw [ix_m (j := m) (by omega)] at hK
    generalize hR : needR (vE G) m 1000 0 = R at *
    have r0 : gI h 65 0 = eS (vE G) 0 := by rw [← hE]; exact (em_s (by omega)).symm
    refine hJ 0 _ _ _ _ ?_
    simp only [z_X6_needs_0, u_X6_needs_0, u_X6_needs_18, u_X6_needs_30, u_X6_needs_62, u_X6_needs_68, j_X6_needs_18, j_X6_needs_30, j_X6_needs_62, j_X6_needs_68, ev_iload_n1, ev_iconst, ev_bipush, ev_callS3, ev_if_ne, ev_aload_n0, ev_sipush, ev_callV1, ev_iret, ro_i, ro_z, ev_getfR, ev_iaload, ev_istore_n2, ev_istore_n3, ev_istore4, ev_nop, ev_iload4, ev_ic_ge, ev_iload_n3, ev_ic_ne, ev_iastore, ev_callV0, ev_ic_le, ev_iinc4, ev_goto, ev_iload_n2, ↓e_X6_no, ↓e_X6_outs, ↓e_X6_within, vq3_0, vq3_1, vq3_2, cq_0, cq_1, cq_2, capO_z, kb_6, kb_7, kb_8, kb_9, kb_10, kb_12, kb_16, kb_20, kb_21, kb_30, kb_32, kb_40, kb_48, kb_50, kb_57, kb_59, kb_60, kb_63, kb_70, kb_78, kb_81, kb_82, kb_84, kb_97, kb_99, kb_100, kb_101, kb_119, kb_120, kb_122, ki_m1, ki_0, ki_1, ki_2, ki_3, ki_4, ki_5, ki_6, ki_7, ki_8, ki_9, ki_10, ki_11, ki_12, ki_13, ki_14, ki_15, ki_16, ki_17, ki_18, ki_19, ki_20, ki_21, ki_22, ki_23, ki_24, ki_25, ki_26, ki_27, ki_28, ki_29, ki_30, ki_31, ki_32, ki_33, ki_34, ki_35, ki_36, ki_37, ki_38, ki_39, ki_40, ki_41, ki_42, ki_43, ki_44, ki_45, ki_46, ki_47, ki_48, ki_49, ki_50, ki_51, ki_52, ki_53, ki_54, ki_55, ki_56, ki_57, ki_58, ki_59, ki_60, ki_61, ki_62, ki_63, ks_m2000, ks_m1006, ks_m1005, ks_m1004, ks_m1003, ks_m1002, ks_m1000, ks_200, ks_250, ks_255, ks_256, ks_320, ks_660, ks_999, ks_1000, ks_9999, ks_12345, ne_2, ne_10, t_0, t_40, t_41, t_42, t_43, t_44, t_45, t_46, t_47, t_64, t_65, t_66, t_67, t_68, t_69, t_70, t_71, t_72, t_73, t_74, t_75, t_76, t_77, t_78, t_79, t_80, t_81, t_82, r_0_0, r_0_1, r_0_2, r_0_4, r_0_5, r_0_6, r_0_7, r_40_0, r_40_5, r_44_0, r_44_1, r_64_0, r_64_1, r_64_3, r_64_4, r_64_5, r_64_6, r_64_7, r_64_8, r_64_9, r_64_12, r_64_17, r_64_18, r_64_19, r_64_20, r_64_22, r_64_23, r_64_24, r_64_25, t_1, t_14, t_27, t_2, t_15, t_28, Nat.reduceEqDiff, ne_eq, not_false_eq_true, false_implies, true_implies, implies_true, Nat.reduceAdd, Nat.reduceLeDiff, Nat.reduceLT, Nat.reduceMul, or_true, true_or, if_true, if_false, not_true_eq_false, and_self, bF, Nat.reduceBEq, Bool.false_and, Bool.and_false, Bool.or_self, Bool.or_false, Bool.false_or, Bool.false_eq_true, Int.reduceAdd, Bool.and_self, Bool.true_and, Bool.and_true, beq_self_eq_true, not_not_, i10_, i01_, List.length_nil, List.length_cons, true_and, and_true, false_and, and_false, kl_i, kl_a, kl_n, kl_l, tl_s, tl_n, rv_S, pd_0, pd_e, pd_r, pd_i, pd_l, b2i_t hh, one_z, r0]
    have back : ∀ x h', estM h' = sS (vE G) 0 x → frQ h h' → K (some (.int R)) SH0 (pI h' 65 0 (eS (vE G) 0)) := by
      intro x h' hu hq
      refine hK _ (simM_Q hG ?_ (frQ_p hq (Or.inl (by omega)))) (frY_Q (frQ_p hq (Or.inl (by omega))))
      rw [em_pS (by omega), hu, sS_sS, sS_me]
    refine dn (P := fun a => ∀ x h', estM h' = sS (vE G) 0 x → frQ h h' → needR (vE G) m (1000 - a) a = R → J 30 SH0 [.ref 64, .int (nI m), .int (eS (vE G) 0), .int (-1), .int (nI a)] [] h') 1000 ?_ (fun a ha ih x h' hu hq hr => ?_) (eS (vE G) 0) h (by rw [sS_me]; exact hE) (frQ_rf h) hR
    · intro x h' hu hq hr
      have hr2 : (-1 : Int32) = R := hr
      refine hJ 30 _ _ _ _ ?_
      simp only [z_X6_needs_30, u_X6_needs_0, u_X6_needs_18, u_X6_needs_30, u_X6_needs_62, u_X6_needs_68, j_X6_needs_18, j_X6_needs_30, j_X6_needs_62, j_X6_needs_68, ev_iload_n1, ev_iconst, ev_bipush, ev_callS3, ev_if_ne, ev_aload_n0, ev_sipush, ev_callV1, ev_iret, ro_i, ro_z, ev_getfR, ev_iaload, ev_istore_n2, ev_istore_n3, ev_istore4, ev_nop, ev_iload4, ev_ic_ge, ev_iload_n3, ev_ic_ne, ev_iastore, ev_callV0, ev_ic_le, ev_iinc4, ev_goto, ev_iload_n2, ↓e_X6_no, ↓e_X6_outs, ↓e_X6_within, vq3_0, vq3_1, vq3_2, cq_0, cq_1, cq_2, capO_z, kb_6, kb_7, kb_8, kb_9, kb_10, kb_12, kb_16, kb_20, kb_21, kb_30, kb_32, kb_40, kb_48, kb_50, kb_57, kb_59, kb_60, kb_63, kb_70, kb_78, kb_81, kb_82, kb_84, kb_97, kb_99, kb_100, kb_101, kb_119, kb_120, kb_122, ki_m1, ki_0, ki_1, ki_2, ki_3, ki_4, ki_5, ki_6, ki_7, ki_8, ki_9, ki_10, ki_11, ki_12, ki_13, ki_14, ki_15, ki_16, ki_17, ki_18, ki_19, ki_20, ki_21, ki_22, ki_23, ki_24, ki_25, ki_26, ki_27, ki_28, ki_29, ki_30, ki_31, ki_32, ki_33, ki_34, ki_35, ki_36, ki_37, ki_38, ki_39, ki_40, ki_41, ki_42, ki_43, ki_44, ki_45, ki_46, ki_47, ki_48, ki_49, ki_50, ki_51, ki_52, ki_53, ki_54, ki_55, ki_56, ki_57, ki_58, ki_59, ki_60, ki_61, ki_62, ki_63, ks_m2000, ks_m1006, ks_m1005, ks_m1004, ks_m1003, ks_m1002, ks_m1000, ks_200, ks_250, ks_255, ks_256, ks_320, ks_660, ks_999, ks_1000, ks_9999, ks_12345, ne_2, ne_10, t_0, t_40, t_41, t_42, t_43, t_44, t_45, t_46, t_47, t_64, t_65, t_66, t_67, t_68, t_69, t_70, t_71, t_72, t_73, t_74, t_75, t_76, t_77, t_78, t_79, t_80, t_81, t_82, r_0_0, r_0_1, r_0_2, r_0_4, r_0_5, r_0_6, r_0_7, r_40_0, r_40_5, r_44_0, r_44_1, r_64_0, r_64_1, r_64_3, r_64_4, r_64_5, r_64_6, r_64_7, r_64_8, r_64_9, r_64_12, r_64_17, r_64_18, r_64_19, r_64_20, r_64_22, r_64_23, r_64_24, r_64_25, t_1, t_14, t_27, t_2, t_15, t_28, Nat.reduceEqDiff, ne_eq, not_false_eq_true, false_implies, true_implies, implies_true, Nat.reduceAdd, Nat.reduceLeDiff, Nat.reduceLT, Nat.reduceMul, or_true, true_or, if_true, if_false, not_true_eq_false, and_self, bF, Nat.reduceBEq, Bool.false_and, Bool.and_false, Bool.or_self, Bool.or_false, Bool.false_or, Bool.false_eq_true, Int.reduceAdd, Bool.and_self, Bool.true_and, Bool.and_true, beq_self_eq_true, not_not_, i10_, i01_, List.length_nil, List.length_cons, true_and, and_true, false_and, and_false, kl_i, kl_a, kl_n, kl_l, tl_s, tl_n, rv_S, pd_0, pd_e, pd_r, pd_i, pd_l, show ((1000 : Int32) ≤ nI 1000) = True by decide]
      rw [hr2]
      exact back x h' hu hq
    · rw [show 1000 - a = (1000 - (a + 1)) + 1 by omega, needR_s] at hr
      have e1 : estM (pI h' 65 0 (nI a)) = sS (vE G) 0 (nI a) := by rw [em_pS (by omega), hu, sS_sS]
      have eo : (nI m < outI (sS (vE G) 0 (nI a))) = (m < untilE 0 m (sS (supE (vE G)) 0 (nI a))) := by
        rw [out_lt _ (by omega)]
        conv => lhs; rw [sup_add (vE G), s0_add, until_add]
      have oz : okZ (sS (vE G) 0 (nI a)) := by
        obtain ⟨T, h1, q⟩ := hI
        have na : (nI a).toInt = a := nI_toInt (by omega)
        exact ⟨T + (nI a).toInt.toNat, by omega, good_sto q.1 (by omega) (by omega)⟩
      refine hJ 30 _ _ _ _ ?_
      simp only [z_X6_needs_30, u_X6_needs_0, u_X6_needs_18, u_X6_needs_30, u_X6_needs_62, u_X6_needs_68, j_X6_needs_18, j_X6_needs_30, j_X6_needs_62, j_X6_needs_68, ev_iload_n1, ev_iconst, ev_bipush, ev_callS3, ev_if_ne, ev_aload_n0, ev_sipush, ev_callV1, ev_iret, ro_i, ro_z, ev_getfR, ev_iaload, ev_istore_n2, ev_istore_n3, ev_istore4, ev_nop, ev_iload4, ev_ic_ge, ev_iload_n3, ev_ic_ne, ev_iastore, ev_callV0, ev_ic_le, ev_iinc4, ev_goto, ev_iload_n2, ↓e_X6_no, ↓e_X6_outs, ↓e_X6_within, vq3_0, vq3_1, vq3_2, cq_0, cq_1, cq_2, capO_z, kb_6, kb_7, kb_8, kb_9, kb_10, kb_12, kb_16, kb_20, kb_21, kb_30, kb_32, kb_40, kb_48, kb_50, kb_57, kb_59, kb_60, kb_63, kb_70, kb_78, kb_81, kb_82, kb_84, kb_97, kb_99, kb_100, kb_101, kb_119, kb_120, kb_122, ki_m1, ki_0, ki_1, ki_2, ki_3, ki_4, ki_5, ki_6, ki_7, ki_8, ki_9, ki_10, ki_11, ki_12, ki_13, ki_14, ki_15, ki_16, ki_17, ki_18, ki_19, ki_20, ki_21, ki_22, ki_23, ki_24, ki_25, ki_26, ki_27, ki_28, ki_29, ki_30, ki_31, ki_32, ki_33, ki_34, ki_35, ki_36, ki_37, ki_38, ki_39, ki_40, ki_41, ki_42, ki_43, ki_44, ki_45, ki_46, ki_47, ki_48, ki_49, ki_50, ki_51, ki_52, ki_53, ki_54, ki_55, ki_56, ki_57, ki_58, ki_59, ki_60, ki_61, ki_62, ki_63, ks_m2000, ks_m1006, ks_m1005, ks_m1004, ks_m1003, ks_m1002, ks_m1000, ks_200, ks_250, ks_255, ks_256, ks_320, ks_660, ks_999, ks_1000, ks_9999, ks_12345, ne_2, ne_10, t_0, t_40, t_41, t_42, t_43, t_44, t_45, t_46, t_47, t_64, t_65, t_66, t_67, t_68, t_69, t_70, t_71, t_72, t_73, t_74, t_75, t_76, t_77, t_78, t_79, t_80, t_81, t_82, r_0_0, r_0_1, r_0_2, r_0_4, r_0_5, r_0_6, r_0_7, r_40_0, r_40_5, r_44_0, r_44_1, r_64_0, r_64_1, r_64_3, r_64_4, r_64_5, r_64_6, r_64_7, r_64_8, r_64_9, r_64_12, r_64_17, r_64_18, r_64_19, r_64_20, r_64_22, r_64_23, r_64_24, r_64_25, t_1, t_14, t_27, t_2, t_15, t_28, Nat.reduceEqDiff, ne_eq, not_false_eq_true, false_implies, true_implies, implies_true, Nat.reduceAdd, Nat.reduceLeDiff, Nat.reduceLT, Nat.reduceMul, or_true, true_or, if_true, if_false, not_true_eq_false, and_self, bF, Nat.reduceBEq, Bool.false_and, Bool.and_false, Bool.or_self, Bool.or_false, Bool.false_or, Bool.false_eq_true, Int.reduceAdd, Bool.and_self, Bool.true_and, Bool.and_true, beq_self_eq_true, not_not_, i10_, i01_, List.length_nil, List.length_cons, true_and, and_true, false_and, and_false, kl_i, kl_a, kl_n, kl_l, tl_s, tl_n, rv_S, pd_0, pd_e, pd_r, pd_i, pd_l, show ((1000 : Int32) ≤ nI a) = False from lpF (n := 1000) ha (by omega), m1_m1, e1]
      refine ⟨oz, fun h2 e2 w2 => ?_⟩
      have q2 : frQ h h2 := frQ_tr (frQ_p hq (Or.inl (by omega))) (frQ_W w2)
      have le_o : ∀ x y : Int32, (x ≤ y) = ¬ (y < x) := fun x y => propext ⟨fun z => Int32.not_lt.mpr z, fun z => Int32.not_lt.mp z⟩
      simp only [le_o, eo]
      have fnd : nI a = R → J 30 SH0 [.ref 64, .int (nI m), .int (eS (vE G) 0), .int (nI a), .int (nI (a + 1))] [] h2 := by
        intro z
        have na := nI_mm (n := a) (by omega)
        refine hJ 30 _ _ _ _ ?_
        simp only [z_X6_needs_30, u_X6_needs_0, u_X6_needs_18, u_X6_needs_30, u_X6_needs_62, u_X6_needs_68, j_X6_needs_18, j_X6_needs_30, j_X6_needs_62, j_X6_needs_68, ev_iload_n1, ev_iconst, ev_bipush, ev_callS3, ev_if_ne, ev_aload_n0, ev_sipush, ev_callV1, ev_iret, ro_i, ro_z, ev_getfR, ev_iaload, ev_istore_n2, ev_istore_n3, ev_istore4, ev_nop, ev_iload4, ev_ic_ge, ev_iload_n3, ev_ic_ne, ev_iastore, ev_callV0, ev_ic_le, ev_iinc4, ev_goto, ev_iload_n2, ↓e_X6_no, ↓e_X6_outs, ↓e_X6_within, vq3_0, vq3_1, vq3_2, cq_0, cq_1, cq_2, capO_z, kb_6, kb_7, kb_8, kb_9, kb_10, kb_12, kb_16, kb_20, kb_21, kb_30, kb_32, kb_40, kb_48, kb_50, kb_57, kb_59, kb_60, kb_63, kb_70, kb_78, kb_81, kb_82, kb_84, kb_97, kb_99, kb_100, kb_101, kb_119, kb_120, kb_122, ki_m1, ki_0, ki_1, ki_2, ki_3, ki_4, ki_5, ki_6, ki_7, ki_8, ki_9, ki_10, ki_11, ki_12, ki_13, ki_14, ki_15, ki_16, ki_17, ki_18, ki_19, ki_20, ki_21, ki_22, ki_23, ki_24, ki_25, ki_26, ki_27, ki_28, ki_29, ki_30, ki_31, ki_32, ki_33, ki_34, ki_35, ki_36, ki_37, ki_38, ki_39, ki_40, ki_41, ki_42, ki_43, ki_44, ki_45, ki_46, ki_47, ki_48, ki_49, ki_50, ki_51, ki_52, ki_53, ki_54, ki_55, ki_56, ki_57, ki_58, ki_59, ki_60, ki_61, ki_62, ki_63, ks_m2000, ks_m1006, ks_m1005, ks_m1004, ks_m1003, ks_m1002, ks_m1000, ks_200, ks_250, ks_255, ks_256, ks_320, ks_660, ks_999, ks_1000, ks_9999, ks_12345, ne_2, ne_10, t_0, t_40, t_41, t_42, t_43, t_44, t_45, t_46, t_47, t_64, t_65, t_66, t_67, t_68, t_69, t_70, t_71, t_72, t_73, t_74, t_75, t_76, t_77, t_78, t_79, t_80, t_81, t_82, r_0_0, r_0_1, r_0_2, r_0_4, r_0_5, r_0_6, r_0_7, r_40_0, r_40_5, r_44_0, r_44_1, r_64_0, r_64_1, r_64_3, r_64_4, r_64_5, r_64_6, r_64_7, r_64_8, r_64_9, r_64_12, r_64_17, r_64_18, r_64_19, r_64_20, r_64_22, r_64_23, r_64_24, r_64_25, t_1, t_14, t_27, t_2, t_15, t_28, Nat.reduceEqDiff, ne_eq, not_false_eq_true, false_implies, true_implies, implies_true, Nat.reduceAdd, Nat.reduceLeDiff, Nat.reduceLT, Nat.reduceMul, or_true, true_or, if_true, if_false, not_true_eq_false, and_self, bF, Nat.reduceBEq, Bool.false_and, Bool.and_false, Bool.or_self, Bool.or_false, Bool.false_or, Bool.false_eq_true, Int.reduceAdd, Bool.and_self, Bool.true_and, Bool.and_true, beq_self_eq_true, not_not_, i10_, i01_, List.length_nil, List.length_cons, true_and, and_true, false_and, and_false, kl_i, kl_a, kl_n, kl_l, tl_s, tl_n, rv_S, pd_0, pd_e, pd_r, pd_i, pd_l, na]
        rw [z]
        exact ⟨fun _ => back _ h2 e2 q2, fun _ => back _ h2 e2 q2⟩
      rw [nI_1]
      refine ⟨fun q => ?_, fun q => ?_⟩
      · rw [if_neg q] at hr
        exact ih _ h2 e2 q2 hr
      · rw [if_pos (Decidable.not_not.mp q)] at hr
        exact fnd hr
  · simp only [g_needs, if_neg hh, noG] at hK
    refine hJ 0 _ _ _ _ ?_
    simp only [z_X6_needs_0, u_X6_needs_0, u_X6_needs_18, u_X6_needs_30, u_X6_needs_62, u_X6_needs_68, j_X6_needs_18, j_X6_needs_30, j_X6_needs_62, j_X6_needs_68, ev_iload_n1, ev_iconst, ev_bipush, ev_callS3, ev_if_ne, ev_aload_n0, ev_sipush, ev_callV1, ev_iret, ro_i, ro_z, ev_getfR, ev_iaload, ev_istore_n2, ev_istore_n3, ev_istore4, ev_nop, ev_iload4, ev_ic_ge, ev_iload_n3, ev_ic_ne, ev_iastore, ev_callV0, ev_ic_le, ev_iinc4, ev_goto, ev_iload_n2, ↓e_X6_no, ↓e_X6_outs, ↓e_X6_within, vq3_0, vq3_1, vq3_2, cq_0, cq_1, cq_2, capO_z, kb_6, kb_7, kb_8, kb_9, kb_10, kb_12, kb_16, kb_20, kb_21, kb_30, kb_32, kb_40, kb_48, kb_50, kb_57, kb_59, kb_60, kb_63, kb_70, kb_78, kb_81, kb_82, kb_84, kb_97, kb_99, kb_100, kb_101, kb_119, kb_120, kb_122, ki_m1, ki_0, ki_1, ki_2, ki_3, ki_4, ki_5, ki_6, ki_7, ki_8, ki_9, ki_10, ki_11, ki_12, ki_13, ki_14, ki_15, ki_16, ki_17, ki_18, ki_19, ki_20, ki_21, ki_22, ki_23, ki_24, ki_25, ki_26, ki_27, ki_28, ki_29, ki_30, ki_31, ki_32, ki_33, ki_34, ki_35, ki_36, ki_37, ki_38, ki_39, ki_40, ki_41, ki_42, ki_43, ki_44, ki_45, ki_46, ki_47, ki_48, ki_49, ki_50, ki_51, ki_52, ki_53, ki_54, ki_55, ki_56, ki_57, ki_58, ki_59, ki_60, ki_61, ki_62, ki_63, ks_m2000, ks_m1006, ks_m1005, ks_m1004, ks_m1003, ks_m1002, ks_m1000, ks_200, ks_250, ks_255, ks_256, ks_320, ks_660, ks_999, ks_1000, ks_9999, ks_12345, ne_2, ne_10, t_0, t_40, t_41, t_42, t_43, t_44, t_45, t_46, t_47, t_64, t_65, t_66, t_67, t_68, t_69, t_70, t_71, t_72, t_73, t_74, t_75, t_76, t_77, t_78, t_79, t_80, t_81, t_82, r_0_0, r_0_1, r_0_2, r_0_4, r_0_5, r_0_6, r_0_7, r_40_0, r_40_5, r_44_0, r_44_1, r_64_0, r_64_1, r_64_3, r_64_4, r_64_5, r_64_6, r_64_7, r_64_8, r_64_9, r_64_12, r_64_17, r_64_18, r_64_19, r_64_20, r_64_22, r_64_23, r_64_24, r_64_25, t_1, t_14, t_27, t_2, t_15, t_28, Nat.reduceEqDiff, ne_eq, not_false_eq_true, false_implies, true_implies, implies_true, Nat.reduceAdd, Nat.reduceLeDiff, Nat.reduceLT, Nat.reduceMul, or_true, true_or, if_true, if_false, not_true_eq_false, and_self, bF, Nat.reduceBEq, Bool.false_and, Bool.and_false, Bool.or_self, Bool.or_false, Bool.false_or, Bool.false_eq_true, Int.reduceAdd, Bool.and_self, Bool.true_and, Bool.and_true, beq_self_eq_true, not_not_, i10_, i01_, List.length_nil, List.length_cons, true_and, and_true, false_and, and_false, kl_i, kl_a, kl_n, kl_l, tl_s, tl_n, rv_S, pd_0, pd_e, pd_r, pd_i, pd_l, b2i_f hh, zero_z, ic_2]
    exact hK _ (simM_ref hI hG kc2) (frY_ref h _)
def P_X6_fairest : Sp0T := fun as h K => match as with
  | [.ref x, .int n] => x = 64 ∧ XM h (fun G => g_fairest G n) K
  | _ => False
def S_X6_fairest : SpT := lift P_X6_fairest
def L_X6_fairest_76 : List Item := (76, .aload_n 0, [], nS) :: (77, .getfield 7, [6, 0, 1], nS) :: (80, .iconst 2, [], nS) :: (81, .iload_n 2, [], nS) :: (82, .iastore, [], nS) :: (83, .iload_n 3, [], nS) :: (84, .ireturn, [], nS) :: []
def L_X6_fairest_70 : List Item := (70, .iinc 5 1, [], nS) :: (73, .goto (-41), [32], nS) :: L_X6_fairest_76
def L_X6_fairest_63 : List Item := (63, .iload 6, [], nS) :: (65, .istore 4, [], nS) :: (67, .iload 5, [], nS) :: (69, .istore_n 3, [], nS) :: L_X6_fairest_70
def L_X6_fairest_32 : List Item := (32, .iload 5, [], nS) :: (34, .iconst 3, [], nS) :: (35, .if_icmp .ge 41, [76], nS) :: (38, .aload_n 0, [], nS) :: (39, .getfield 7, [6, 0, 1], nS) :: (42, .iconst 2, [], nS) :: (43, .iload 5, [], nS) :: (45, .iastore, [], nS) :: (46, .aload_n 0, [], nS) :: (47, .iload_n 1, [], nS) :: (48, .invokevirtual 238, [1, 6, 0, 0], S_X6_unfair) :: (51, .istore 6, [], nS) :: (53, .iload 6, [], nS) :: (55, .iload 4, [], nS) :: (57, .if_icmp .lt 6, [63], nS) :: (60, .goto 10, [70], nS) :: L_X6_fairest_63
def L_X6_fairest_15 : List Item := (15, .aload_n 0, [], nS) :: (16, .getfield 7, [6, 0, 1], nS) :: (19, .iconst 2, [], nS) :: (20, .iaload, [], nS) :: (21, .istore_n 2, [], nS) :: (22, .iconst 0, [], nS) :: (23, .istore_n 3, [], nS) :: (24, .ldc_w 288, [0, 5], nS) :: (27, .istore 4, [], nS) :: (29, .iconst 0, [], nS) :: (30, .istore 5, [], nS) :: (32, .nop, [], nS) :: L_X6_fairest_32
def L_X6_fairest_0 : List Item := (0, .iload_n 1, [], nS) :: (1, .invokestatic 214, [0, 1, 0, 0], S_X6_isTime) :: (4, .ifCond .ne 11, [15], nS) :: (7, .aload_n 0, [], nS) :: (8, .sipush (-1002), [], nS) :: (11, .invokevirtual 82, [1, 6, 0, 0], S_X6_no) :: (14, .ireturn, [], nS) :: L_X6_fairest_15
def L_X6_fairest : List Item := L_X6_fairest_0
theorem ok_X6_fairest : okB cX6_fairest L_X6_fairest = true := by decide +kernel
theorem lk_X6_fairest (l : Launch) : LKs l RX6 7 false L_X6_fairest := ⟨trivial, Or.inl ⟨_, _, _, _, _, _, _, _, rfl, c_X6_isTime l, yv_X6_isTime, by decide, gT_of (List.mem_of_getElem? (i := 1173) (by decide +kernel)) rfl⟩, trivial, trivial, trivial, ⟨_, _, _, _, _, _, _, _, _, rfl, c_X6_no l, Or.inl ⟨by decide, yv_X6_no⟩, by decide, gT_of (List.mem_of_getElem? (i := 1007) (by decide +kernel)) rfl⟩, trivial, trivial, ⟨_, _, _, rfl, ⟨(RX6, TX6, 26), rfl, by decide, gT_of (List.mem_of_getElem? (i := 918) (by decide +kernel)) rfl⟩, rfl⟩, trivial, trivial, trivial, trivial, trivial, ⟨_, rfl, gT_of (List.mem_of_getElem? (i := 1396) (by decide +kernel)) rfl⟩, trivial, trivial, trivial, trivial, trivial, trivial, trivial, trivial, ⟨_, _, _, rfl, ⟨(RX6, TX6, 26), rfl, by decide, gT_of (List.mem_of_getElem? (i := 918) (by decide +kernel)) rfl⟩, rfl⟩, trivial, trivial, trivial, trivial, trivial, ⟨_, _, _, _, _, _, _, _, _, rfl, c_X6_unfair l, Or.inl ⟨by decide, yv_X6_unfair⟩, by decide, gT_of (List.mem_of_getElem? (i := 1229) (by decide +kernel)) rfl⟩, trivial, trivial, trivial, trivial, trivial, trivial, trivial, trivial, trivial, trivial, trivial, trivial, ⟨_, _, _, rfl, ⟨(RX6, TX6, 26), rfl, by decide, gT_of (List.mem_of_getElem? (i := 918) (by decide +kernel)) rfl⟩, rfl⟩, trivial, trivial, trivial, trivial, trivial, trivial⟩
theorem b_X6_fairest_0 : atL L_X6_fairest 0 = L_X6_fairest_0 := rfl
theorem b_X6_fairest_15 : atL L_X6_fairest 15 = L_X6_fairest_15 := rfl
theorem b_X6_fairest_32 : atL L_X6_fairest 32 = L_X6_fairest_32 := rfl
theorem b_X6_fairest_63 : atL L_X6_fairest 63 = L_X6_fairest_63 := rfl
theorem b_X6_fairest_70 : atL L_X6_fairest 70 = L_X6_fairest_70 := rfl
theorem b_X6_fairest_76 : atL L_X6_fairest 76 = L_X6_fairest_76 := rfl
theorem a_X6_fairest_15 : afw L_X6_fairest [32] 15 = L_X6_fairest_15 := rfl
theorem a_X6_fairest_63 : afw L_X6_fairest [32] 63 = L_X6_fairest_63 := rfl
theorem a_X6_fairest_70 : afw L_X6_fairest [32] 70 = L_X6_fairest_70 := rfl
theorem a_X6_fairest_76 : afw L_X6_fairest [32] 76 = L_X6_fairest_76 := rfl
theorem a_X6_fairest_32 : afw L_X6_fairest [32] 32 = [] := rfl
theorem yv_X6_fairest : YV yX6_fairest cX6_fairest 7 (some .int) 1 6 := ⟨⟨gT_of (List.mem_of_getElem? (i := 1395) (by decide +kernel)) rfl, gT_of (List.mem_of_getElem? (i := 74) (by decide +kernel)) rfl, ⟨by decide, by decide⟩, by decide +kernel, by decide⟩, gT_of (List.mem_of_getElem? (i := 1393) (by decide +kernel)) rfl, gT_of (List.mem_of_getElem? (i := 1394) (by decide +kernel)) rfl, rfl⟩
theorem u_X6_fairest_0 : L_X6_fairest_0 = (0, .iload_n 1, [], nS) :: (1, .invokestatic 214, [0, 1, 0, 0], S_X6_isTime) :: (4, .ifCond .ne 11, [15], nS) :: (7, .aload_n 0, [], nS) :: (8, .sipush (-1002), [], nS) :: (11, .invokevirtual 82, [1, 6, 0, 0], S_X6_no) :: (14, .ireturn, [], nS) :: L_X6_fairest_15 := nr rfl
theorem u_X6_fairest_15 : L_X6_fairest_15 = (15, .aload_n 0, [], nS) :: (16, .getfield 7, [6, 0, 1], nS) :: (19, .iconst 2, [], nS) :: (20, .iaload, [], nS) :: (21, .istore_n 2, [], nS) :: (22, .iconst 0, [], nS) :: (23, .istore_n 3, [], nS) :: (24, .ldc_w 288, [0, 5], nS) :: (27, .istore 4, [], nS) :: (29, .iconst 0, [], nS) :: (30, .istore 5, [], nS) :: (32, .nop, [], nS) :: L_X6_fairest_32 := nr rfl
theorem u_X6_fairest_32 : L_X6_fairest_32 = (32, .iload 5, [], nS) :: (34, .iconst 3, [], nS) :: (35, .if_icmp .ge 41, [76], nS) :: (38, .aload_n 0, [], nS) :: (39, .getfield 7, [6, 0, 1], nS) :: (42, .iconst 2, [], nS) :: (43, .iload 5, [], nS) :: (45, .iastore, [], nS) :: (46, .aload_n 0, [], nS) :: (47, .iload_n 1, [], nS) :: (48, .invokevirtual 238, [1, 6, 0, 0], S_X6_unfair) :: (51, .istore 6, [], nS) :: (53, .iload 6, [], nS) :: (55, .iload 4, [], nS) :: (57, .if_icmp .lt 6, [63], nS) :: (60, .goto 10, [70], nS) :: L_X6_fairest_63 := nr rfl
theorem u_X6_fairest_63 : L_X6_fairest_63 = (63, .iload 6, [], nS) :: (65, .istore 4, [], nS) :: (67, .iload 5, [], nS) :: (69, .istore_n 3, [], nS) :: L_X6_fairest_70 := nr rfl
theorem u_X6_fairest_70 : L_X6_fairest_70 = (70, .iinc 5 1, [], nS) :: (73, .goto (-41), [32], nS) :: L_X6_fairest_76 := nr rfl
theorem u_X6_fairest_76 : L_X6_fairest_76 = (76, .aload_n 0, [], nS) :: (77, .getfield 7, [6, 0, 1], nS) :: (80, .iconst 2, [], nS) :: (81, .iload_n 2, [], nS) :: (82, .iastore, [], nS) :: (83, .iload_n 3, [], nS) :: (84, .ireturn, [], nS) :: [] := nr rfl
theorem z_X6_fairest_0 : atL L_X6_fairest 0 = L_X6_fairest_0 := nr rfl
theorem z_X6_fairest_15 : atL L_X6_fairest 15 = L_X6_fairest_15 := nr rfl
theorem z_X6_fairest_32 : atL L_X6_fairest 32 = L_X6_fairest_32 := nr rfl
theorem z_X6_fairest_63 : atL L_X6_fairest 63 = L_X6_fairest_63 := nr rfl
theorem z_X6_fairest_70 : atL L_X6_fairest 70 = L_X6_fairest_70 := nr rfl
theorem z_X6_fairest_76 : atL L_X6_fairest 76 = L_X6_fairest_76 := nr rfl
theorem j_X6_fairest_15 {G : List Item → SpS → List Value → List Value → AH → Prop} {J : Nat → SpS → List Value → List Value → AH → Prop} {S : SpS} {lv st : List Value} {h : AH} : jmp G J (afw L_X6_fairest [32] 15) 15 S lv st h = G L_X6_fairest_15 S lv st h := nr rfl
theorem j_X6_fairest_63 {G : List Item → SpS → List Value → List Value → AH → Prop} {J : Nat → SpS → List Value → List Value → AH → Prop} {S : SpS} {lv st : List Value} {h : AH} : jmp G J (afw L_X6_fairest [32] 63) 63 S lv st h = G L_X6_fairest_63 S lv st h := nr rfl
theorem j_X6_fairest_70 {G : List Item → SpS → List Value → List Value → AH → Prop} {J : Nat → SpS → List Value → List Value → AH → Prop} {S : SpS} {lv st : List Value} {h : AH} : jmp G J (afw L_X6_fairest [32] 70) 70 S lv st h = G L_X6_fairest_70 S lv st h := nr rfl
theorem j_X6_fairest_76 {G : List Item → SpS → List Value → List Value → AH → Prop} {J : Nat → SpS → List Value → List Value → AH → Prop} {S : SpS} {lv st : List Value} {h : AH} : jmp G J (afw L_X6_fairest [32] 76) 76 S lv st h = G L_X6_fairest_76 S lv st h := nr rfl
theorem j_X6_fairest_32 {G : List Item → SpS → List Value → List Value → AH → Prop} {J : Nat → SpS → List Value → List Value → AH → Prop} {S : SpS} {lv st : List Value} {h : AH} : jmp G J (afw L_X6_fairest [32] 32) 32 S lv st h = J 32 S lv st h := nr rfl
theorem e_X6_fairest {x : Addr} {n : Int32} {h : AH} {K2 : Option Value → SpS → AH → Prop} : S_X6_fairest SH0 [.ref x, .int n] h K2 = (fun (K : Option Value → AH → Prop) => x = 64 ∧ XM h (fun G => g_fairest G n) K) (fun v h' => K2 v SH0 h') := (lift_e P_X6_fairest [.ref x, .int n] h K2).trans (nr rfl)
set_option maxRecDepth 100000 in
set_option maxHeartbeats 4000000 in
theorem c_X6_fairest (l : Launch) : Ct l yX6_fairest cX6_fairest 7 (some .int) 7 0 0 S_X6_fairest := by
  refine Ct0_mk L_X6_fairest [32] (by decide +kernel) (by decide) ok_X6_fairest (lk_X6_fairest l) ?_
  intro as h K hP
  match as, hP with
  | [.ref x, .int n], ⟨hx, G, hG, hI, hK⟩ =>
  refine ⟨by simp [slotsN, Value.category], fun J hJ => ?_⟩
  subst hx
  dsimp only at hK
  have hE : estM h = vE G := hG.1
  have ho := okG_ok (okM_G hI)
  have ho2 := okG_t (okM_G hI)
  have hn : cnt (vE G) ≤ 10 := okG_n (okM_G hI)
  have c4 : gI h 64 2 = nI (cnt (vE G)) := by rw [← hE]; exact em_c (hE ▸ ho)
  by_cases hh : inI n 200
  · obtain ⟨m, hm, rfl⟩ := in_of (m := 200) (by omega) hh
    simp only [g_fairest, if_pos hh, ix_m (j := m) (show m < 2147483648 by omega)] at hK
    have fd : ∀ c, c < 3 → unfairE (passN m (supE (sS (vE G) 2 (nI c)))) = unfC (vE G) m c ∧ 0 ≤ (unfC (vE G) m c).toInt ∧ (unfC (vE G) m c).toInt ≤ 1000000000 := fun c hc => ⟨by
      have e : supC (vE G) 0 0 c = sS (supE (vE G)) 2 (nI c) := if_pos rfl
      have e2 : supE (sS (vE G) 2 (nI c)) = sS (supE (vE G)) 2 (nI c) := by
        unfold supE
        rw [cnt_sS _ _ _ (by omega)]
        generalize cnt (vE G) = n
        induction n with
        | zero => rfl
        | succ n ih =>
          show sF (forgetE n (sS (vE G) 2 (nI c))) n 5 0 = sS (sF (forgetE n (vE G)) n 5 0) 2 (nI c)
          rw [ih]; rfl
      unfold unfC
      rw [e, e2], okZ_unf (okM_B hI) m hc⟩
    generalize hf : unfC (vE G) m = f at *
    have r2 : gI h 65 2 = eS (vE G) 2 := by rw [← hE]; exact (em_s (by omega)).symm
    refine hJ 0 _ _ _ _ ?_
    simp only [z_X6_fairest_0, u_X6_fairest_0, u_X6_fairest_15, u_X6_fairest_32, u_X6_fairest_63, u_X6_fairest_70, u_X6_fairest_76, j_X6_fairest_15, j_X6_fairest_32, j_X6_fairest_63, j_X6_fairest_70, j_X6_fairest_76, ev_iload_n1, ev_callS1, ev_if_ne, ev_aload_n0, ev_sipush, ev_callV1, ev_iret, ro_i, ro_z, ev_getfR, ev_iconst, ev_iaload, ev_istore_n2, ev_istore_n3, ev_ldc_wI, ev_istore4, ev_istore5, ev_nop, ev_iload5, ev_ic_ge, ev_iastore, ev_istore6, ev_iload6, ev_iload4, ev_ic_lt, ev_goto, ev_iinc5, ev_iload_n2, ev_iload_n3, ↓e_X6_isTime, ↓e_X6_no, ↓e_X6_unfair, vq3_0, vq3_1, vq3_2, cq_0, cq_1, cq_2, capO_z, kb_6, kb_7, kb_8, kb_9, kb_10, kb_12, kb_16, kb_20, kb_21, kb_30, kb_32, kb_40, kb_48, kb_50, kb_57, kb_59, kb_60, kb_63, kb_70, kb_78, kb_81, kb_82, kb_84, kb_97, kb_99, kb_100, kb_101, kb_119, kb_120, kb_122, ki_m1, ki_0, ki_1, ki_2, ki_3, ki_4, ki_5, ki_6, ki_7, ki_8, ki_9, ki_10, ki_11, ki_12, ki_13, ki_14, ki_15, ki_16, ki_17, ki_18, ki_19, ki_20, ki_21, ki_22, ki_23, ki_24, ki_25, ki_26, ki_27, ki_28, ki_29, ki_30, ki_31, ki_32, ki_33, ki_34, ki_35, ki_36, ki_37, ki_38, ki_39, ki_40, ki_41, ki_42, ki_43, ki_44, ki_45, ki_46, ki_47, ki_48, ki_49, ki_50, ki_51, ki_52, ki_53, ki_54, ki_55, ki_56, ki_57, ki_58, ki_59, ki_60, ki_61, ki_62, ki_63, ks_m2000, ks_m1006, ks_m1005, ks_m1004, ks_m1003, ks_m1002, ks_m1000, ks_200, ks_250, ks_255, ks_256, ks_320, ks_660, ks_999, ks_1000, ks_9999, ks_12345, ne_2, ne_10, t_0, t_40, t_41, t_42, t_43, t_44, t_45, t_46, t_47, t_64, t_65, t_66, t_67, t_68, t_69, t_70, t_71, t_72, t_73, t_74, t_75, t_76, t_77, t_78, t_79, t_80, t_81, t_82, r_0_0, r_0_1, r_0_2, r_0_4, r_0_5, r_0_6, r_0_7, r_40_0, r_40_5, r_44_0, r_44_1, r_64_0, r_64_1, r_64_3, r_64_4, r_64_5, r_64_6, r_64_7, r_64_8, r_64_9, r_64_12, r_64_17, r_64_18, r_64_19, r_64_20, r_64_22, r_64_23, r_64_24, r_64_25, t_1, t_14, t_27, t_2, t_15, t_28, Nat.reduceEqDiff, ne_eq, not_false_eq_true, false_implies, true_implies, implies_true, Nat.reduceAdd, Nat.reduceLeDiff, Nat.reduceLT, Nat.reduceMul, or_true, true_or, if_true, if_false, not_true_eq_false, and_self, bF, Nat.reduceBEq, Bool.false_and, Bool.and_false, Bool.or_self, Bool.or_false, Bool.false_or, Bool.false_eq_true, Int.reduceAdd, Bool.and_self, Bool.true_and, Bool.and_true, beq_self_eq_true, not_not_, i10_, i01_, List.length_nil, List.length_cons, true_and, and_true, false_and, and_false, kl_i, kl_a, kl_n, kl_l, tl_s, tl_n, rv_S, pd_0, pd_e, pd_r, pd_i, pd_l, b2i_t hh, one_z, r2]
    intro mx hmx
    have hge : ∀ a, a ≤ 3 → (a = 0 ∧ fairN f a = (0, -1)) ∨ (0 < a ∧ 0 ≤ (fairN f a).2.toInt ∧ (fairN f a).2.toInt ≤ 1000000000) := by
      intro a
      induction a with
      | zero => intro _; exact Or.inl ⟨rfl, rfl⟩
      | succ a ih =>
        intro ha
        have fa := (fd a (by omega)).2
        refine Or.inr ⟨by omega, ?_⟩
        rw [fairN_s]
        by_cases q : (fairN f a).2 = -1 ∨ f a < (fairN f a).2
        · rw [if_pos q]; exact fa
        · rw [if_neg q]
          rcases ih (by omega) with ⟨z, e⟩ | z
          · exact absurd (Or.inl (by rw [e])) q
          · exact z.2
    refine dn (P := fun a => ∀ v6 x l h', estM h' = sS (vE G) 2 x → frQ h h' → l = (if a = 0 then mx else (fairN f a).2) → J 32 SH0 [.ref 64, .int (nI m), .int (eS (vE G) 2), .int (fairN f a).1, .int l, .int (nI a), v6] [] h') 3 ?_ (fun a ha ih v6 x l h' hu hq hl => ?_) .null (eS (vE G) 2) mx h (by rw [sS_me]; exact hE) (frQ_rf h) (if_pos rfl).symm
    · intro v6 x l h' hu hq hl
      refine hJ 32 _ _ _ _ ?_
      simp only [z_X6_fairest_32, u_X6_fairest_0, u_X6_fairest_15, u_X6_fairest_32, u_X6_fairest_63, u_X6_fairest_70, u_X6_fairest_76, j_X6_fairest_15, j_X6_fairest_32, j_X6_fairest_63, j_X6_fairest_70, j_X6_fairest_76, ev_iload_n1, ev_callS1, ev_if_ne, ev_aload_n0, ev_sipush, ev_callV1, ev_iret, ro_i, ro_z, ev_getfR, ev_iconst, ev_iaload, ev_istore_n2, ev_istore_n3, ev_ldc_wI, ev_istore4, ev_istore5, ev_nop, ev_iload5, ev_ic_ge, ev_iastore, ev_istore6, ev_iload6, ev_iload4, ev_ic_lt, ev_goto, ev_iinc5, ev_iload_n2, ev_iload_n3, ↓e_X6_isTime, ↓e_X6_no, ↓e_X6_unfair, vq3_0, vq3_1, vq3_2, cq_0, cq_1, cq_2, capO_z, kb_6, kb_7, kb_8, kb_9, kb_10, kb_12, kb_16, kb_20, kb_21, kb_30, kb_32, kb_40, kb_48, kb_50, kb_57, kb_59, kb_60, kb_63, kb_70, kb_78, kb_81, kb_82, kb_84, kb_97, kb_99, kb_100, kb_101, kb_119, kb_120, kb_122, ki_m1, ki_0, ki_1, ki_2, ki_3, ki_4, ki_5, ki_6, ki_7, ki_8, ki_9, ki_10, ki_11, ki_12, ki_13, ki_14, ki_15, ki_16, ki_17, ki_18, ki_19, ki_20, ki_21, ki_22, ki_23, ki_24, ki_25, ki_26, ki_27, ki_28, ki_29, ki_30, ki_31, ki_32, ki_33, ki_34, ki_35, ki_36, ki_37, ki_38, ki_39, ki_40, ki_41, ki_42, ki_43, ki_44, ki_45, ki_46, ki_47, ki_48, ki_49, ki_50, ki_51, ki_52, ki_53, ki_54, ki_55, ki_56, ki_57, ki_58, ki_59, ki_60, ki_61, ki_62, ki_63, ks_m2000, ks_m1006, ks_m1005, ks_m1004, ks_m1003, ks_m1002, ks_m1000, ks_200, ks_250, ks_255, ks_256, ks_320, ks_660, ks_999, ks_1000, ks_9999, ks_12345, ne_2, ne_10, t_0, t_40, t_41, t_42, t_43, t_44, t_45, t_46, t_47, t_64, t_65, t_66, t_67, t_68, t_69, t_70, t_71, t_72, t_73, t_74, t_75, t_76, t_77, t_78, t_79, t_80, t_81, t_82, r_0_0, r_0_1, r_0_2, r_0_4, r_0_5, r_0_6, r_0_7, r_40_0, r_40_5, r_44_0, r_44_1, r_64_0, r_64_1, r_64_3, r_64_4, r_64_5, r_64_6, r_64_7, r_64_8, r_64_9, r_64_12, r_64_17, r_64_18, r_64_19, r_64_20, r_64_22, r_64_23, r_64_24, r_64_25, t_1, t_14, t_27, t_2, t_15, t_28, Nat.reduceEqDiff, ne_eq, not_false_eq_true, false_implies, true_implies, implies_true, Nat.reduceAdd, Nat.reduceLeDiff, Nat.reduceLT, Nat.reduceMul, or_true, true_or, if_true, if_false, not_true_eq_false, and_self, bF, Nat.reduceBEq, Bool.false_and, Bool.and_false, Bool.or_self, Bool.or_false, Bool.false_or, Bool.false_eq_true, Int.reduceAdd, Bool.and_self, Bool.true_and, Bool.and_true, beq_self_eq_true, not_not_, i10_, i01_, List.length_nil, List.length_cons, true_and, and_true, false_and, and_false, kl_i, kl_a, kl_n, kl_l, tl_s, tl_n, rv_S, pd_0, pd_e, pd_r, pd_i, pd_l, show ((3 : Int32) ≤ nI 3) = True by decide]
      refine hK _ (simM_Q hG ?_ (frQ_p hq (Or.inl (by omega)))) (frY_Q (frQ_p hq (Or.inl (by omega))))
      rw [em_pS (by omega), hu, sS_sS, sS_me]
    · have e1 : estM (pI h' 65 2 (nI a)) = sS (vE G) 2 (nI a) := by rw [em_pS (by omega), hu, sS_sS]
      obtain ⟨f1, f2, f3⟩ := fd a ha
      have oz := okZ_o (okZ_r (okM_B hI) ha)
      refine hJ 32 _ _ _ _ ?_
      simp only [z_X6_fairest_32, u_X6_fairest_0, u_X6_fairest_15, u_X6_fairest_32, u_X6_fairest_63, u_X6_fairest_70, u_X6_fairest_76, j_X6_fairest_15, j_X6_fairest_32, j_X6_fairest_63, j_X6_fairest_70, j_X6_fairest_76, ev_iload_n1, ev_callS1, ev_if_ne, ev_aload_n0, ev_sipush, ev_callV1, ev_iret, ro_i, ro_z, ev_getfR, ev_iconst, ev_iaload, ev_istore_n2, ev_istore_n3, ev_ldc_wI, ev_istore4, ev_istore5, ev_nop, ev_iload5, ev_ic_ge, ev_iastore, ev_istore6, ev_iload6, ev_iload4, ev_ic_lt, ev_goto, ev_iinc5, ev_iload_n2, ev_iload_n3, ↓e_X6_isTime, ↓e_X6_no, ↓e_X6_unfair, vq3_0, vq3_1, vq3_2, cq_0, cq_1, cq_2, capO_z, kb_6, kb_7, kb_8, kb_9, kb_10, kb_12, kb_16, kb_20, kb_21, kb_30, kb_32, kb_40, kb_48, kb_50, kb_57, kb_59, kb_60, kb_63, kb_70, kb_78, kb_81, kb_82, kb_84, kb_97, kb_99, kb_100, kb_101, kb_119, kb_120, kb_122, ki_m1, ki_0, ki_1, ki_2, ki_3, ki_4, ki_5, ki_6, ki_7, ki_8, ki_9, ki_10, ki_11, ki_12, ki_13, ki_14, ki_15, ki_16, ki_17, ki_18, ki_19, ki_20, ki_21, ki_22, ki_23, ki_24, ki_25, ki_26, ki_27, ki_28, ki_29, ki_30, ki_31, ki_32, ki_33, ki_34, ki_35, ki_36, ki_37, ki_38, ki_39, ki_40, ki_41, ki_42, ki_43, ki_44, ki_45, ki_46, ki_47, ki_48, ki_49, ki_50, ki_51, ki_52, ki_53, ki_54, ki_55, ki_56, ki_57, ki_58, ki_59, ki_60, ki_61, ki_62, ki_63, ks_m2000, ks_m1006, ks_m1005, ks_m1004, ks_m1003, ks_m1002, ks_m1000, ks_200, ks_250, ks_255, ks_256, ks_320, ks_660, ks_999, ks_1000, ks_9999, ks_12345, ne_2, ne_10, t_0, t_40, t_41, t_42, t_43, t_44, t_45, t_46, t_47, t_64, t_65, t_66, t_67, t_68, t_69, t_70, t_71, t_72, t_73, t_74, t_75, t_76, t_77, t_78, t_79, t_80, t_81, t_82, r_0_0, r_0_1, r_0_2, r_0_4, r_0_5, r_0_6, r_0_7, r_40_0, r_40_5, r_44_0, r_44_1, r_64_0, r_64_1, r_64_3, r_64_4, r_64_5, r_64_6, r_64_7, r_64_8, r_64_9, r_64_12, r_64_17, r_64_18, r_64_19, r_64_20, r_64_22, r_64_23, r_64_24, r_64_25, t_1, t_14, t_27, t_2, t_15, t_28, Nat.reduceEqDiff, ne_eq, not_false_eq_true, false_implies, true_implies, implies_true, Nat.reduceAdd, Nat.reduceLeDiff, Nat.reduceLT, Nat.reduceMul, or_true, true_or, if_true, if_false, not_true_eq_false, and_self, bF, Nat.reduceBEq, Bool.false_and, Bool.and_false, Bool.or_self, Bool.or_false, Bool.false_or, Bool.false_eq_true, Int.reduceAdd, Bool.and_self, Bool.true_and, Bool.and_true, beq_self_eq_true, not_not_, i10_, i01_, List.length_nil, List.length_cons, true_and, and_true, false_and, and_false, kl_i, kl_a, kl_n, kl_l, tl_s, tl_n, rv_S, pd_0, pd_e, pd_r, pd_i, pd_l, show ((3 : Int32) ≤ nI a) = False from lpF (n := 3) ha (by omega), e1]
      refine ⟨oz, m, hm, rfl, fun h2 e2 w2 => ?_⟩
      rw [f1, nI_1]
      have q2 : frQ h h2 := frQ_tr (frQ_p hq (Or.inl (by omega))) (frQ_W w2)
      have fs := fairN_s f a
      rcases hge a (by omega) with ⟨z, e⟩ | ⟨z, z2, z3⟩
      · rw [if_pos z] at hl
        rw [if_pos (Or.inl (by rw [e]))] at fs
        have lt : f a < l := by
          rw [hl, hmx, lt_ti, show (cstV 5).toInt = 2147483647 by decide]
          omega
        refine ⟨fun _ => ?_, fun q => absurd lt q⟩
        have := ih (.int (f a)) _ (f a) h2 e2 q2 (by rw [if_neg (by omega), fs])
        rw [fs] at this
        exact this
      · rw [if_neg (by omega)] at hl
        have nm : ¬ (fairN f a).2 = -1 := fun y => by rw [y] at z2; exact absurd z2 (by decide)
        refine ⟨fun q => ?_, fun q => ?_⟩
        · rw [if_pos (Or.inr (by rw [← hl]; exact q))] at fs
          have := ih (.int (f a)) _ (f a) h2 e2 q2 (by rw [if_neg (by omega), fs])
          rw [fs] at this
          exact this
        · rw [if_neg (fun y => y.elim nm (by rw [← hl]; exact q))] at fs
          have := ih (.int (f a)) _ l h2 e2 q2 (by rw [if_neg (by omega), fs]; exact hl)
          rw [fs] at this
          exact this
  · simp only [g_fairest, if_neg hh, noG] at hK
    refine hJ 0 _ _ _ _ ?_
    simp only [z_X6_fairest_0, u_X6_fairest_0, u_X6_fairest_15, u_X6_fairest_32, u_X6_fairest_63, u_X6_fairest_70, u_X6_fairest_76, j_X6_fairest_15, j_X6_fairest_32, j_X6_fairest_63, j_X6_fairest_70, j_X6_fairest_76, ev_iload_n1, ev_callS1, ev_if_ne, ev_aload_n0, ev_sipush, ev_callV1, ev_iret, ro_i, ro_z, ev_getfR, ev_iconst, ev_iaload, ev_istore_n2, ev_istore_n3, ev_ldc_wI, ev_istore4, ev_istore5, ev_nop, ev_iload5, ev_ic_ge, ev_iastore, ev_istore6, ev_iload6, ev_iload4, ev_ic_lt, ev_goto, ev_iinc5, ev_iload_n2, ev_iload_n3, ↓e_X6_isTime, ↓e_X6_no, ↓e_X6_unfair, vq3_0, vq3_1, vq3_2, cq_0, cq_1, cq_2, capO_z, kb_6, kb_7, kb_8, kb_9, kb_10, kb_12, kb_16, kb_20, kb_21, kb_30, kb_32, kb_40, kb_48, kb_50, kb_57, kb_59, kb_60, kb_63, kb_70, kb_78, kb_81, kb_82, kb_84, kb_97, kb_99, kb_100, kb_101, kb_119, kb_120, kb_122, ki_m1, ki_0, ki_1, ki_2, ki_3, ki_4, ki_5, ki_6, ki_7, ki_8, ki_9, ki_10, ki_11, ki_12, ki_13, ki_14, ki_15, ki_16, ki_17, ki_18, ki_19, ki_20, ki_21, ki_22, ki_23, ki_24, ki_25, ki_26, ki_27, ki_28, ki_29, ki_30, ki_31, ki_32, ki_33, ki_34, ki_35, ki_36, ki_37, ki_38, ki_39, ki_40, ki_41, ki_42, ki_43, ki_44, ki_45, ki_46, ki_47, ki_48, ki_49, ki_50, ki_51, ki_52, ki_53, ki_54, ki_55, ki_56, ki_57, ki_58, ki_59, ki_60, ki_61, ki_62, ki_63, ks_m2000, ks_m1006, ks_m1005, ks_m1004, ks_m1003, ks_m1002, ks_m1000, ks_200, ks_250, ks_255, ks_256, ks_320, ks_660, ks_999, ks_1000, ks_9999, ks_12345, ne_2, ne_10, t_0, t_40, t_41, t_42, t_43, t_44, t_45, t_46, t_47, t_64, t_65, t_66, t_67, t_68, t_69, t_70, t_71, t_72, t_73, t_74, t_75, t_76, t_77, t_78, t_79, t_80, t_81, t_82, r_0_0, r_0_1, r_0_2, r_0_4, r_0_5, r_0_6, r_0_7, r_40_0, r_40_5, r_44_0, r_44_1, r_64_0, r_64_1, r_64_3, r_64_4, r_64_5, r_64_6, r_64_7, r_64_8, r_64_9, r_64_12, r_64_17, r_64_18, r_64_19, r_64_20, r_64_22, r_64_23, r_64_24, r_64_25, t_1, t_14, t_27, t_2, t_15, t_28, Nat.reduceEqDiff, ne_eq, not_false_eq_true, false_implies, true_implies, implies_true, Nat.reduceAdd, Nat.reduceLeDiff, Nat.reduceLT, Nat.reduceMul, or_true, true_or, if_true, if_false, not_true_eq_false, and_self, bF, Nat.reduceBEq, Bool.false_and, Bool.and_false, Bool.or_self, Bool.or_false, Bool.false_or, Bool.false_eq_true, Int.reduceAdd, Bool.and_self, Bool.true_and, Bool.and_true, beq_self_eq_true, not_not_, i10_, i01_, List.length_nil, List.length_cons, true_and, and_true, false_and, and_false, kl_i, kl_a, kl_n, kl_l, tl_s, tl_n, rv_S, pd_0, pd_e, pd_r, pd_i, pd_l, b2i_f hh, zero_z, ic_2]
    exact hK _ (simM_ref hI hG kc2) (frY_ref h _)
