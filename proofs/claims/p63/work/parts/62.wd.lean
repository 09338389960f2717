variable {nn : Nat}
/-! ===== the law's year: what is got ===== -/
theorem ti_nI {x : Int32} (h0 : 0 ≤ x.toInt) : ∃ m : Nat, x = nI m ∧ (m : Int) = x.toInt := ⟨x.toInt.toNat, nI_ofP h0, by omega⟩
theorem relH_i {B : Nat → Int32} {E : ES} (h : relB B E) {i : Nat} (hi : i < cnt E) : ∃ k a f y u, smE E i k a f y u ∧ B (5 + i) = nI (cdE k a f y u) := (h.2.2.2.2.2 i hi).1
def yngN (E : ES) (n : Nat) : Int32 := forN n (fun i a => if eF E i 6 = 0 then a + 1 else a) 0
theorem yngN_s (E : ES) (n : Nat) : yngN E (n + 1) = if eF E n 6 = 0 then yngN E n + 1 else yngN E n := rfl
theorem yng_pos {E : ES} {j : Nat} (hj : eF E j 6 = 0) : ∀ n, j < n → n ≤ 10 → ∃ m : Nat, 0 < m ∧ m ≤ n ∧ yngN E n = nI m
  | 0, h, _ => absurd h (Nat.not_lt_zero j)
  | n + 1, h, hn => by
    rw [yngN_s]
    by_cases z : j = n
    · subst z
      obtain ⟨m, m1, m2⟩ := areN_b E 0 j
      have m2 : yngN E j = nI m := m2
      rw [if_pos hj, m2]
      exact ⟨m + 1, by omega, by omega, nI_1 m⟩
    · obtain ⟨m, m1, m2, m3⟩ := yng_pos hj n (by omega) (by omega)
      rw [m3]
      by_cases q : eF E n 6 = 0
      · rw [if_pos q]; exact ⟨m + 1, by omega, by omega, nI_1 m⟩
      · rw [if_neg q]; exact ⟨m, m1, by omega, rfl⟩
theorem how_z {u : Nat} (hu : u < 3) : (nI u = 0) = (u = 0) := kq (b := 0) (by omega) (by omega)
def P_L_gets : Sp0T := fun as h K => match as with
  | [.ref b] => b = 64 ∧ ∃ (E : ES) (T : Nat), T ≤ 1000000000 ∧ relB (gI h 64) E ∧ goodE T E ∧ (∃ j, j < cnt E ∧ eF E j 6 = 0) ∧ K (some (.int (portE E))) h
  | _ => False
def S_L_gets : SpT := lift1 P_L_gets
def L_L_gets_77 : List Item := (77, .ireturn, [], nS) :: []
def L_L_gets_76 : List Item := (76, .iload_n 2, [], nS) :: L_L_gets_77
def L_L_gets_62 : List Item := (62, .istore_n 2, [], nS) :: (63, .iload_n 2, [], nS) :: (64, .aload_n 0, [], nS) :: (65, .iconst 1, [], nS) :: (66, .iaload, [], nS) :: (67, .if_icmp .le 9, [76], nS) :: (70, .aload_n 0, [], nS) :: (71, .iconst 1, [], nS) :: (72, .iaload, [], nS) :: (73, .goto 4, [77], nS) :: L_L_gets_76
def L_L_gets_57 : List Item := (57, .aload_n 0, [], nS) :: (58, .iconst 1, [], nS) :: (59, .iaload, [], nS) :: (60, .iload_n 1, [], nS) :: (61, .idiv, [], nS) :: L_L_gets_62
def L_L_gets_39 : List Item := (39, .aload_n 0, [], nS) :: (40, .iconst 3, [], nS) :: (41, .iaload, [], nS) :: (42, .iconst 1, [], nS) :: (43, .if_icmp .ne 14, [57], nS) :: (46, .aload_n 0, [], nS) :: (47, .iconst 1, [], nS) :: (48, .iaload, [], nS) :: (49, .bipush 10, [], nS) :: (51, .invokestatic 8, [0, 2, 0, 0], S_L_up) :: (54, .goto 8, [62], nS) :: L_L_gets_57
def L_L_gets_28 : List Item := (28, .aload_n 0, [], nS) :: (29, .iconst 3, [], nS) :: (30, .iaload, [], nS) :: (31, .ifCond .ne 8, [39], nS) :: (34, .bipush 60, [], nS) :: (36, .goto 26, [62], nS) :: L_L_gets_39
def L_L_gets_22 : List Item := (22, .iinc 2 1, [], nS) :: (25, .goto (-21), [4], nS) :: L_L_gets_28
def L_L_gets_4 : List Item := (4, .iload_n 2, [], nS) :: (5, .aload_n 0, [], nS) :: (6, .iconst 0, [], nS) :: (7, .iaload, [], nS) :: (8, .if_icmp .ge 20, [28], nS) :: (11, .aload_n 0, [], nS) :: (12, .iload_n 2, [], nS) :: (13, .invokestatic 18, [0, 2, 0, 0], S_L_how) :: (16, .ifCond .ne 6, [22], nS) :: (19, .iinc 1 1, [], nS) :: L_L_gets_22
def L_L_gets_0 : List Item := (0, .iconst 0, [], nS) :: (1, .istore_n 1, [], nS) :: (2, .iconst 0, [], nS) :: (3, .istore_n 2, [], nS) :: (4, .nop, [], nS) :: L_L_gets_4
def L_L_gets : List Item := L_L_gets_0
theorem ok_L_gets : okB cL_gets L_L_gets = true := by decide +kernel
theorem lk_L_gets (l : Launch) : LKs l RL 2 false L_L_gets := ⟨trivial, trivial, trivial, trivial, trivial, trivial, trivial, trivial, trivial, trivial, trivial, trivial, Or.inl ⟨_, _, _, _, _, _, _, _, rfl, c_L_how l, yv_L_how, by decide, gT_of (List.mem_of_getElem? (i := 740) (by decide +kernel)) rfl⟩, trivial, trivial, trivial, trivial, trivial, trivial, trivial, trivial, trivial, trivial, trivial, trivial, trivial, trivial, trivial, trivial, trivial, trivial, trivial, Or.inl ⟨_, _, _, _, _, _, _, _, rfl, c_L_up l, yv_L_up, by decide, gT_of (List.mem_of_getElem? (i := 750) (by decide +kernel)) rfl⟩, trivial, trivial, trivial, trivial, trivial, trivial, trivial, trivial, trivial, trivial, trivial, trivial, trivial, trivial, trivial, trivial, trivial, trivial, trivial⟩
theorem b_L_gets_0 : atL L_L_gets 0 = L_L_gets_0 := rfl
theorem b_L_gets_4 : atL L_L_gets 4 = L_L_gets_4 := rfl
theorem b_L_gets_22 : atL L_L_gets 22 = L_L_gets_22 := rfl
theorem b_L_gets_28 : atL L_L_gets 28 = L_L_gets_28 := rfl
theorem b_L_gets_39 : atL L_L_gets 39 = L_L_gets_39 := rfl
theorem b_L_gets_57 : atL L_L_gets 57 = L_L_gets_57 := rfl
theorem b_L_gets_62 : atL L_L_gets 62 = L_L_gets_62 := rfl
theorem b_L_gets_76 : atL L_L_gets 76 = L_L_gets_76 := rfl
theorem b_L_gets_77 : atL L_L_gets 77 = L_L_gets_77 := rfl
theorem a_L_gets_22 : afw L_L_gets [4] 22 = L_L_gets_22 := rfl
theorem a_L_gets_28 : afw L_L_gets [4] 28 = L_L_gets_28 := rfl
theorem a_L_gets_39 : afw L_L_gets [4] 39 = L_L_gets_39 := rfl
theorem a_L_gets_57 : afw L_L_gets [4] 57 = L_L_gets_57 := rfl
theorem a_L_gets_62 : afw L_L_gets [4] 62 = L_L_gets_62 := rfl
theorem a_L_gets_76 : afw L_L_gets [4] 76 = L_L_gets_76 := rfl
theorem a_L_gets_77 : afw L_L_gets [4] 77 = L_L_gets_77 := rfl
theorem a_L_gets_4 : afw L_L_gets [4] 4 = [] := rfl
theorem yv_L_gets : YS yL_gets cL_gets 3 (some .int) 1 := ⟨⟨gT_of (List.mem_of_getElem? (i := 749) (by decide +kernel)) rfl, gT_of (List.mem_of_getElem? (i := 25) (by decide +kernel)) rfl, ⟨by decide, by decide⟩, by decide +kernel, by decide⟩, gT_of (List.mem_of_getElem? (i := 748) (by decide +kernel)) rfl⟩
theorem u_L_gets_0 : L_L_gets_0 = (0, .iconst 0, [], nS) :: (1, .istore_n 1, [], nS) :: (2, .iconst 0, [], nS) :: (3, .istore_n 2, [], nS) :: (4, .nop, [], nS) :: L_L_gets_4 := nr rfl
theorem u_L_gets_4 : L_L_gets_4 = (4, .iload_n 2, [], nS) :: (5, .aload_n 0, [], nS) :: (6, .iconst 0, [], nS) :: (7, .iaload, [], nS) :: (8, .if_icmp .ge 20, [28], nS) :: (11, .aload_n 0, [], nS) :: (12, .iload_n 2, [], nS) :: (13, .invokestatic 18, [0, 2, 0, 0], S_L_how) :: (16, .ifCond .ne 6, [22], nS) :: (19, .iinc 1 1, [], nS) :: L_L_gets_22 := nr rfl
theorem u_L_gets_22 : L_L_gets_22 = (22, .iinc 2 1, [], nS) :: (25, .goto (-21), [4], nS) :: L_L_gets_28 := nr rfl
theorem u_L_gets_28 : L_L_gets_28 = (28, .aload_n 0, [], nS) :: (29, .iconst 3, [], nS) :: (30, .iaload, [], nS) :: (31, .ifCond .ne 8, [39], nS) :: (34, .bipush 60, [], nS) :: (36, .goto 26, [62], nS) :: L_L_gets_39 := nr rfl
theorem u_L_gets_39 : L_L_gets_39 = (39, .aload_n 0, [], nS) :: (40, .iconst 3, [], nS) :: (41, .iaload, [], nS) :: (42, .iconst 1, [], nS) :: (43, .if_icmp .ne 14, [57], nS) :: (46, .aload_n 0, [], nS) :: (47, .iconst 1, [], nS) :: (48, .iaload, [], nS) :: (49, .bipush 10, [], nS) :: (51, .invokestatic 8, [0, 2, 0, 0], S_L_up) :: (54, .goto 8, [62], nS) :: L_L_gets_57 := nr rfl
theorem u_L_gets_57 : L_L_gets_57 = (57, .aload_n 0, [], nS) :: (58, .iconst 1, [], nS) :: (59, .iaload, [], nS) :: (60, .iload_n 1, [], nS) :: (61, .idiv, [], nS) :: L_L_gets_62 := nr rfl
theorem u_L_gets_62 : L_L_gets_62 = (62, .istore_n 2, [], nS) :: (63, .iload_n 2, [], nS) :: (64, .aload_n 0, [], nS) :: (65, .iconst 1, [], nS) :: (66, .iaload, [], nS) :: (67, .if_icmp .le 9, [76], nS) :: (70, .aload_n 0, [], nS) :: (71, .iconst 1, [], nS) :: (72, .iaload, [], nS) :: (73, .goto 4, [77], nS) :: L_L_gets_76 := nr rfl
theorem u_L_gets_76 : L_L_gets_76 = (76, .iload_n 2, [], nS) :: L_L_gets_77 := nr rfl
theorem u_L_gets_77 : L_L_gets_77 = (77, .ireturn, [], nS) :: [] := nr rfl
theorem z_L_gets_0 : atL L_L_gets 0 = L_L_gets_0 := nr rfl
theorem z_L_gets_4 : atL L_L_gets 4 = L_L_gets_4 := nr rfl
theorem z_L_gets_22 : atL L_L_gets 22 = L_L_gets_22 := nr rfl
theorem z_L_gets_28 : atL L_L_gets 28 = L_L_gets_28 := nr rfl
theorem z_L_gets_39 : atL L_L_gets 39 = L_L_gets_39 := nr rfl
theorem z_L_gets_57 : atL L_L_gets 57 = L_L_gets_57 := nr rfl
theorem z_L_gets_62 : atL L_L_gets 62 = L_L_gets_62 := nr rfl
theorem z_L_gets_76 : atL L_L_gets 76 = L_L_gets_76 := nr rfl
theorem z_L_gets_77 : atL L_L_gets 77 = L_L_gets_77 := nr rfl
theorem j_L_gets_22 {G : List Item → SpS → List Value → List Value → AH → Prop} {J : Nat → SpS → List Value → List Value → AH → Prop} {S : SpS} {lv st : List Value} {h : AH} : jmp G J (afw L_L_gets [4] 22) 22 S lv st h = G L_L_gets_22 S lv st h := nr rfl
theorem j_L_gets_28 {G : List Item → SpS → List Value → List Value → AH → Prop} {J : Nat → SpS → List Value → List Value → AH → Prop} {S : SpS} {lv st : List Value} {h : AH} : jmp G J (afw L_L_gets [4] 28) 28 S lv st h = G L_L_gets_28 S lv st h := nr rfl
theorem j_L_gets_39 {G : List Item → SpS → List Value → List Value → AH → Prop} {J : Nat → SpS → List Value → List Value → AH → Prop} {S : SpS} {lv st : List Value} {h : AH} : jmp G J (afw L_L_gets [4] 39) 39 S lv st h = G L_L_gets_39 S lv st h := nr rfl
theorem j_L_gets_57 {G : List Item → SpS → List Value → List Value → AH → Prop} {J : Nat → SpS → List Value → List Value → AH → Prop} {S : SpS} {lv st : List Value} {h : AH} : jmp G J (afw L_L_gets [4] 57) 57 S lv st h = G L_L_gets_57 S lv st h := nr rfl
theorem j_L_gets_62 {G : List Item → SpS → List Value → List Value → AH → Prop} {J : Nat → SpS → List Value → List Value → AH → Prop} {S : SpS} {lv st : List Value} {h : AH} : jmp G J (afw L_L_gets [4] 62) 62 S lv st h = G L_L_gets_62 S lv st h := nr rfl
theorem j_L_gets_76 {G : List Item → SpS → List Value → List Value → AH → Prop} {J : Nat → SpS → List Value → List Value → AH → Prop} {S : SpS} {lv st : List Value} {h : AH} : jmp G J (afw L_L_gets [4] 76) 76 S lv st h = G L_L_gets_76 S lv st h := nr rfl
theorem j_L_gets_77 {G : List Item → SpS → List Value → List Value → AH → Prop} {J : Nat → SpS → List Value → List Value → AH → Prop} {S : SpS} {lv st : List Value} {h : AH} : jmp G J (afw L_L_gets [4] 77) 77 S lv st h = G L_L_gets_77 S lv st h := nr rfl
theorem j_L_gets_4 {G : List Item → SpS → List Value → List Value → AH → Prop} {J : Nat → SpS → List Value → List Value → AH → Prop} {S : SpS} {lv st : List Value} {h : AH} : jmp G J (afw L_L_gets [4] 4) 4 S lv st h = J 4 S lv st h := nr rfl
theorem e_L_gets {b : Addr} {h : AH} {K2 : Option Value → SpS → AH → Prop} : S_L_gets (SHn 1) [.ref b] h K2 = (fun (K : Option Value → AH → Prop) => b = 64 ∧ ∃ (E : ES) (T : Nat), T ≤ 1000000000 ∧ relB (gI h 64) E ∧ goodE T E ∧ (∃ j, j < cnt E ∧ eF E j 6 = 0) ∧ K (some (.int (portE E))) h) (fun v h' => K2 v (SHn 1) h') := (lift1_e P_L_gets [.ref b] h K2).trans (nr rfl)
set_option maxRecDepth 100000 in
set_option maxHeartbeats 4000000 in
theorem c_L_gets (l : Launch) : Ct l yL_gets cL_gets 3 (some .int) 2 0 0 S_L_gets := by
  refine Ct1_mk L_L_gets [4] (by decide +kernel) (by decide) ok_L_gets (lk_L_gets l) ?_
  intro as h K hP
  match as, hP with
  | [.ref b], ⟨hb, E, T, hT, hr, hg, ⟨j, hj, hj6⟩, hK⟩ =>
  refine ⟨by simp [slotsN, Value.category], fun J hJ => ?_⟩
  subst hb
  have hn : cnt E ≤ 10 := hr.1.2
  have b0 := hr.1.1
  have b1 := hr.2.1
  have b3 := hr.2.2.2.1
  obtain ⟨hs0, hs1⟩ := inv_0 hg.2.2
  obtain ⟨s, hs, hs2⟩ := ti_nI hs0
  refine hJ 0 _ _ _ _ ?_
  simp only [z_L_gets_0, u_L_gets_0, u_L_gets_4, u_L_gets_22, u_L_gets_28, u_L_gets_39, u_L_gets_57, u_L_gets_62, u_L_gets_76, u_L_gets_77, j_L_gets_4, j_L_gets_22, j_L_gets_28, j_L_gets_39, j_L_gets_57, j_L_gets_62, j_L_gets_76, j_L_gets_77, ev_iconst, ev_istore_n1, ev_istore_n2, ev_nop, ev_iload_n2, ev_aload_n0, ev_iaload, ev_ic_ge, ev_callS2, ev_if_ne, ev_iinc1, ev_iinc2, ev_goto, ev_bipush, ev_ic_ne, ev_iload_n1, ev_idiv, ev_ic_le, ev_iret, ro_i, ro_z, ↓e_L_how, ↓e_L_up, capO_z, kb_6, kb_11, kb_13, kb_15, kb_17, kb_18, kb_19, kb_23, kb_24, kb_25, kb_26, kb_29, kb_31, kb_35, kb_37, kb_41, kb_43, kb_44, kb_61, kb_75, kb_104, kb_7, kb_8, kb_9, kb_10, kb_12, kb_16, kb_20, kb_21, kb_30, kb_32, kb_40, kb_48, kb_50, kb_57, kb_59, kb_60, kb_63, kb_70, kb_78, kb_81, kb_82, kb_84, kb_97, kb_99, kb_100, kb_101, kb_119, kb_120, kb_122, ki_m1, ki_0, ki_1, ki_2, ki_3, ki_4, ki_5, ki_6, ki_7, ki_8, ki_9, ki_10, ki_11, ki_12, ki_13, ki_14, ki_15, ki_16, ki_17, ki_18, ki_19, ki_20, ki_21, ki_22, ki_23, ki_24, ki_25, ki_26, ki_27, ki_28, ki_29, ki_30, ki_31, ki_32, ki_33, ki_34, ki_35, ki_36, ki_37, ki_38, ki_39, ki_40, ki_41, ki_42, ki_43, ki_44, ki_45, ki_46, ki_47, ki_48, ki_49, ki_50, ki_51, ki_52, ki_53, ki_54, ki_55, ki_56, ki_57, ki_58, ki_59, ki_60, ki_61, ki_62, ki_63, ks_m2000, ks_m1006, ks_m1005, ks_m1004, ks_m1003, ks_m1002, ks_m1000, ks_200, ks_201, ks_300, ks_720, ks_9000, ks_10000, ks_250, ks_255, ks_256, ks_320, ks_660, ks_999, ks_1000, ks_9999, ks_12345, ne_2, ne_10, t_0, t_40, t_41, t_42, t_43, t_44, t_45, t_46, t_47, r_0_0, r_0_1, r_0_2, r_0_4, r_0_5, r_0_6, r_0_7, r_40_0, r_40_5, r_44_0, r_44_1, t_1, t_14, t_27, t_2, t_15, t_28, t_64, Nat.reduceEqDiff, ne_eq, not_false_eq_true, false_implies, true_implies, implies_true, Nat.reduceAdd, Nat.reduceLeDiff, Nat.reduceLT, Nat.reduceMul, or_true, true_or, if_true, if_false, not_true_eq_false, and_self, bF, Nat.reduceBEq, Bool.false_and, Bool.and_false, Bool.or_self, Bool.or_false, Bool.false_or, Bool.false_eq_true, Int.reduceAdd, Bool.and_self, Bool.true_and, Bool.and_true, beq_self_eq_true, not_not_, i10_, i01_, List.length_nil, List.length_cons, true_and, and_true, false_and, and_false, kl_i, kl_a, kl_n, kl_l, tl_s, tl_n, rv_S, pd_0, pd_e, pd_r, pd_i, pd_l]
  refine dn (P := fun i => J 4 (SHn 1) [.ref 64, .int (yngN E i), .int (nI i)] [] h) (cnt E) ?_ (fun i hi ih => ?_)
  · obtain ⟨m, m1, m2, m3⟩ := yng_pos hj6 (cnt E) hj hn
    have ea : areN E 0 = nI m := m3
    have hand : ∀ z : Int32, z = dueE E → (z ≤ eS E 0 → K (some (.int z)) (SHn 1) h) ∧ (¬ z ≤ eS E 0 → K (some (.int (eS E 0))) (SHn 1) h) := by
      intro z hz
      dsimp only at hK
      unfold portE at hK
      rw [← hz] at hK
      refine ⟨fun q => ?_, fun q => ?_⟩
      · rw [if_neg (Int32.not_lt.mpr q)] at hK; exact hK
      · rw [if_pos (Int32.not_le.mp q)] at hK; exact hK
    have t10 := up_ten (m := s) (by omega)
    rcases hg.1.2.2 with e2 | e2 | e2
    · refine hJ 4 _ _ _ _ ?_
      simp only [z_L_gets_4, u_L_gets_0, u_L_gets_4, u_L_gets_22, u_L_gets_28, u_L_gets_39, u_L_gets_57, u_L_gets_62, u_L_gets_76, u_L_gets_77, j_L_gets_4, j_L_gets_22, j_L_gets_28, j_L_gets_39, j_L_gets_57, j_L_gets_62, j_L_gets_76, j_L_gets_77, ev_iconst, ev_istore_n1, ev_istore_n2, ev_nop, ev_iload_n2, ev_aload_n0, ev_iaload, ev_ic_ge, ev_callS2, ev_if_ne, ev_iinc1, ev_iinc2, ev_goto, ev_bipush, ev_ic_ne, ev_iload_n1, ev_idiv, ev_ic_le, ev_iret, ro_i, ro_z, ↓e_L_how, ↓e_L_up, capO_z, kb_6, kb_11, kb_13, kb_15, kb_17, kb_18, kb_19, kb_23, kb_24, kb_25, kb_26, kb_29, kb_31, kb_35, kb_37, kb_41, kb_43, kb_44, kb_61, kb_75, kb_104, kb_7, kb_8, kb_9, kb_10, kb_12, kb_16, kb_20, kb_21, kb_30, kb_32, kb_40, kb_48, kb_50, kb_57, kb_59, kb_60, kb_63, kb_70, kb_78, kb_81, kb_82, kb_84, kb_97, kb_99, kb_100, kb_101, kb_119, kb_120, kb_122, ki_m1, ki_0, ki_1, ki_2, ki_3, ki_4, ki_5, ki_6, ki_7, ki_8, ki_9, ki_10, ki_11, ki_12, ki_13, ki_14, ki_15, ki_16, ki_17, ki_18, ki_19, ki_20, ki_21, ki_22, ki_23, ki_24, ki_25, ki_26, ki_27, ki_28, ki_29, ki_30, ki_31, ki_32, ki_33, ki_34, ki_35, ki_36, ki_37, ki_38, ki_39, ki_40, ki_41, ki_42, ki_43, ki_44, ki_45, ki_46, ki_47, ki_48, ki_49, ki_50, ki_51, ki_52, ki_53, ki_54, ki_55, ki_56, ki_57, ki_58, ki_59, ki_60, ki_61, ki_62, ki_63, ks_m2000, ks_m1006, ks_m1005, ks_m1004, ks_m1003, ks_m1002, ks_m1000, ks_200, ks_201, ks_300, ks_720, ks_9000, ks_10000, ks_250, ks_255, ks_256, ks_320, ks_660, ks_999, ks_1000, ks_9999, ks_12345, ne_2, ne_10, t_0, t_40, t_41, t_42, t_43, t_44, t_45, t_46, t_47, r_0_0, r_0_1, r_0_2, r_0_4, r_0_5, r_0_6, r_0_7, r_40_0, r_40_5, r_44_0, r_44_1, t_1, t_14, t_27, t_2, t_15, t_28, t_64, Nat.reduceEqDiff, ne_eq, not_false_eq_true, false_implies, true_implies, implies_true, Nat.reduceAdd, Nat.reduceLeDiff, Nat.reduceLT, Nat.reduceMul, or_true, true_or, if_true, if_false, not_true_eq_false, and_self, bF, Nat.reduceBEq, Bool.false_and, Bool.and_false, Bool.or_self, Bool.or_false, Bool.false_or, Bool.false_eq_true, Int.reduceAdd, Bool.and_self, Bool.true_and, Bool.and_true, beq_self_eq_true, not_not_, i10_, i01_, List.length_nil, List.length_cons, true_and, and_true, false_and, and_false, kl_i, kl_a, kl_n, kl_l, tl_s, tl_n, rv_S, pd_0, pd_e, pd_r, pd_i, pd_l, vp43_0, cl_0, b0, lpT10 hn, vp43_3, cl_3, b3, e2, vp43_1, cl_1, b1]
      exact hand _ (by unfold dueE; rw [e2]; rfl)
    · refine hJ 4 _ _ _ _ ?_
      simp only [z_L_gets_4, u_L_gets_0, u_L_gets_4, u_L_gets_22, u_L_gets_28, u_L_gets_39, u_L_gets_57, u_L_gets_62, u_L_gets_76, u_L_gets_77, j_L_gets_4, j_L_gets_22, j_L_gets_28, j_L_gets_39, j_L_gets_57, j_L_gets_62, j_L_gets_76, j_L_gets_77, ev_iconst, ev_istore_n1, ev_istore_n2, ev_nop, ev_iload_n2, ev_aload_n0, ev_iaload, ev_ic_ge, ev_callS2, ev_if_ne, ev_iinc1, ev_iinc2, ev_goto, ev_bipush, ev_ic_ne, ev_iload_n1, ev_idiv, ev_ic_le, ev_iret, ro_i, ro_z, ↓e_L_how, ↓e_L_up, capO_z, kb_6, kb_11, kb_13, kb_15, kb_17, kb_18, kb_19, kb_23, kb_24, kb_25, kb_26, kb_29, kb_31, kb_35, kb_37, kb_41, kb_43, kb_44, kb_61, kb_75, kb_104, kb_7, kb_8, kb_9, kb_10, kb_12, kb_16, kb_20, kb_21, kb_30, kb_32, kb_40, kb_48, kb_50, kb_57, kb_59, kb_60, kb_63, kb_70, kb_78, kb_81, kb_82, kb_84, kb_97, kb_99, kb_100, kb_101, kb_119, kb_120, kb_122, ki_m1, ki_0, ki_1, ki_2, ki_3, ki_4, ki_5, ki_6, ki_7, ki_8, ki_9, ki_10, ki_11, ki_12, ki_13, ki_14, ki_15, ki_16, ki_17, ki_18, ki_19, ki_20, ki_21, ki_22, ki_23, ki_24, ki_25, ki_26, ki_27, ki_28, ki_29, ki_30, ki_31, ki_32, ki_33, ki_34, ki_35, ki_36, ki_37, ki_38, ki_39, ki_40, ki_41, ki_42, ki_43, ki_44, ki_45, ki_46, ki_47, ki_48, ki_49, ki_50, ki_51, ki_52, ki_53, ki_54, ki_55, ki_56, ki_57, ki_58, ki_59, ki_60, ki_61, ki_62, ki_63, ks_m2000, ks_m1006, ks_m1005, ks_m1004, ks_m1003, ks_m1002, ks_m1000, ks_200, ks_201, ks_300, ks_720, ks_9000, ks_10000, ks_250, ks_255, ks_256, ks_320, ks_660, ks_999, ks_1000, ks_9999, ks_12345, ne_2, ne_10, t_0, t_40, t_41, t_42, t_43, t_44, t_45, t_46, t_47, r_0_0, r_0_1, r_0_2, r_0_4, r_0_5, r_0_6, r_0_7, r_40_0, r_40_5, r_44_0, r_44_1, t_1, t_14, t_27, t_2, t_15, t_28, t_64, Nat.reduceEqDiff, ne_eq, not_false_eq_true, false_implies, true_implies, implies_true, Nat.reduceAdd, Nat.reduceLeDiff, Nat.reduceLT, Nat.reduceMul, or_true, true_or, if_true, if_false, not_true_eq_false, and_self, bF, Nat.reduceBEq, Bool.false_and, Bool.and_false, Bool.or_self, Bool.or_false, Bool.false_or, Bool.false_eq_true, Int.reduceAdd, Bool.and_self, Bool.true_and, Bool.and_true, beq_self_eq_true, not_not_, i10_, i01_, List.length_nil, List.length_cons, true_and, and_true, false_and, and_false, kl_i, kl_a, kl_n, kl_l, tl_s, tl_n, rv_S, pd_0, pd_e, pd_r, pd_i, pd_l, vp43_0, cl_0, b0, lpT10 hn, vp43_3, cl_3, b3, e2, vp43_1, cl_1, b1, one_z]
      refine ⟨s, 10, by omega, hs, by omega, by omega, rfl, ?_⟩
      exact hand _ (by unfold dueE; rw [e2, if_pos rfl, hs]; exact t10.symm)
    · refine hJ 4 _ _ _ _ ?_
      simp only [z_L_gets_4, u_L_gets_0, u_L_gets_4, u_L_gets_22, u_L_gets_28, u_L_gets_39, u_L_gets_57, u_L_gets_62, u_L_gets_76, u_L_gets_77, j_L_gets_4, j_L_gets_22, j_L_gets_28, j_L_gets_39, j_L_gets_57, j_L_gets_62, j_L_gets_76, j_L_gets_77, ev_iconst, ev_istore_n1, ev_istore_n2, ev_nop, ev_iload_n2, ev_aload_n0, ev_iaload, ev_ic_ge, ev_callS2, ev_if_ne, ev_iinc1, ev_iinc2, ev_goto, ev_bipush, ev_ic_ne, ev_iload_n1, ev_idiv, ev_ic_le, ev_iret, ro_i, ro_z, ↓e_L_how, ↓e_L_up, capO_z, kb_6, kb_11, kb_13, kb_15, kb_17, kb_18, kb_19, kb_23, kb_24, kb_25, kb_26, kb_29, kb_31, kb_35, kb_37, kb_41, kb_43, kb_44, kb_61, kb_75, kb_104, kb_7, kb_8, kb_9, kb_10, kb_12, kb_16, kb_20, kb_21, kb_30, kb_32, kb_40, kb_48, kb_50, kb_57, kb_59, kb_60, kb_63, kb_70, kb_78, kb_81, kb_82, kb_84, kb_97, kb_99, kb_100, kb_101, kb_119, kb_120, kb_122, ki_m1, ki_0, ki_1, ki_2, ki_3, ki_4, ki_5, ki_6, ki_7, ki_8, ki_9, ki_10, ki_11, ki_12, ki_13, ki_14, ki_15, ki_16, ki_17, ki_18, ki_19, ki_20, ki_21, ki_22, ki_23, ki_24, ki_25, ki_26, ki_27, ki_28, ki_29, ki_30, ki_31, ki_32, ki_33, ki_34, ki_35, ki_36, ki_37, ki_38, ki_39, ki_40, ki_41, ki_42, ki_43, ki_44, ki_45, ki_46, ki_47, ki_48, ki_49, ki_50, ki_51, ki_52, ki_53, ki_54, ki_55, ki_56, ki_57, ki_58, ki_59, ki_60, ki_61, ki_62, ki_63, ks_m2000, ks_m1006, ks_m1005, ks_m1004, ks_m1003, ks_m1002, ks_m1000, ks_200, ks_201, ks_300, ks_720, ks_9000, ks_10000, ks_250, ks_255, ks_256, ks_320, ks_660, ks_999, ks_1000, ks_9999, ks_12345, ne_2, ne_10, t_0, t_40, t_41, t_42, t_43, t_44, t_45, t_46, t_47, r_0_0, r_0_1, r_0_2, r_0_4, r_0_5, r_0_6, r_0_7, r_40_0, r_40_5, r_44_0, r_44_1, t_1, t_14, t_27, t_2, t_15, t_28, t_64, Nat.reduceEqDiff, ne_eq, not_false_eq_true, false_implies, true_implies, implies_true, Nat.reduceAdd, Nat.reduceLeDiff, Nat.reduceLT, Nat.reduceMul, or_true, true_or, if_true, if_false, not_true_eq_false, and_self, bF, Nat.reduceBEq, Bool.false_and, Bool.and_false, Bool.or_self, Bool.or_false, Bool.false_or, Bool.false_eq_true, Int.reduceAdd, Bool.and_self, Bool.true_and, Bool.and_true, beq_self_eq_true, not_not_, i10_, i01_, List.length_nil, List.length_cons, true_and, and_true, false_and, and_false, kl_i, kl_a, kl_n, kl_l, tl_s, tl_n, rv_S, pd_0, pd_e, pd_r, pd_i, pd_l, vp43_0, cl_0, b0, lpT10 hn, vp43_3, cl_3, b3, e2, vp43_1, cl_1, b1, show ((2 : Int32) = 0) = False by decide, k21, m3, nI_ne0 m1 (show m < 2 ^ 31 by omega)]
      refine hand _ ?_
      unfold dueE
      rw [e2, if_neg (by decide), if_pos rfl, ea, if_pos (by rw [show (0 : Int32) = nI 0 from rfl, nI_ltx (by omega) (by omega)]; exact m1)]
  · obtain ⟨k, a, f, y, u, hs3, hc⟩ := relH_i hr hi
    have e6 := hs3.2.2.2.2.2.2
    rw [yngN_s, e6] at ih
    refine hJ 4 _ _ _ _ ?_
    simp only [z_L_gets_4, u_L_gets_0, u_L_gets_4, u_L_gets_22, u_L_gets_28, u_L_gets_39, u_L_gets_57, u_L_gets_62, u_L_gets_76, u_L_gets_77, j_L_gets_4, j_L_gets_22, j_L_gets_28, j_L_gets_39, j_L_gets_57, j_L_gets_62, j_L_gets_76, j_L_gets_77, ev_iconst, ev_istore_n1, ev_istore_n2, ev_nop, ev_iload_n2, ev_aload_n0, ev_iaload, ev_ic_ge, ev_callS2, ev_if_ne, ev_iinc1, ev_iinc2, ev_goto, ev_bipush, ev_ic_ne, ev_iload_n1, ev_idiv, ev_ic_le, ev_iret, ro_i, ro_z, ↓e_L_how, ↓e_L_up, capO_z, kb_6, kb_11, kb_13, kb_15, kb_17, kb_18, kb_19, kb_23, kb_24, kb_25, kb_26, kb_29, kb_31, kb_35, kb_37, kb_41, kb_43, kb_44, kb_61, kb_75, kb_104, kb_7, kb_8, kb_9, kb_10, kb_12, kb_16, kb_20, kb_21, kb_30, kb_32, kb_40, kb_48, kb_50, kb_57, kb_59, kb_60, kb_63, kb_70, kb_78, kb_81, kb_82, kb_84, kb_97, kb_99, kb_100, kb_101, kb_119, kb_120, kb_122, ki_m1, ki_0, ki_1, ki_2, ki_3, ki_4, ki_5, ki_6, ki_7, ki_8, ki_9, ki_10, ki_11, ki_12, ki_13, ki_14, ki_15, ki_16, ki_17, ki_18, ki_19, ki_20, ki_21, ki_22, ki_23, ki_24, ki_25, ki_26, ki_27, ki_28, ki_29, ki_30, ki_31, ki_32, ki_33, ki_34, ki_35, ki_36, ki_37, ki_38, ki_39, ki_40, ki_41, ki_42, ki_43, ki_44, ki_45, ki_46, ki_47, ki_48, ki_49, ki_50, ki_51, ki_52, ki_53, ki_54, ki_55, ki_56, ki_57, ki_58, ki_59, ki_60, ki_61, ki_62, ki_63, ks_m2000, ks_m1006, ks_m1005, ks_m1004, ks_m1003, ks_m1002, ks_m1000, ks_200, ks_201, ks_300, ks_720, ks_9000, ks_10000, ks_250, ks_255, ks_256, ks_320, ks_660, ks_999, ks_1000, ks_9999, ks_12345, ne_2, ne_10, t_0, t_40, t_41, t_42, t_43, t_44, t_45, t_46, t_47, r_0_0, r_0_1, r_0_2, r_0_4, r_0_5, r_0_6, r_0_7, r_40_0, r_40_5, r_44_0, r_44_1, t_1, t_14, t_27, t_2, t_15, t_28, t_64, Nat.reduceEqDiff, ne_eq, not_false_eq_true, false_implies, true_implies, implies_true, Nat.reduceAdd, Nat.reduceLeDiff, Nat.reduceLT, Nat.reduceMul, or_true, true_or, if_true, if_false, not_true_eq_false, and_self, bF, Nat.reduceBEq, Bool.false_and, Bool.and_false, Bool.or_self, Bool.or_false, Bool.false_or, Bool.false_eq_true, Int.reduceAdd, Bool.and_self, Bool.true_and, Bool.and_true, beq_self_eq_true, not_not_, i10_, i01_, List.length_nil, List.length_cons, true_and, and_true, false_and, and_false, kl_i, kl_a, kl_n, kl_l, tl_s, tl_n, rv_S, pd_0, pd_e, pd_r, pd_i, pd_l, vp43_0, cl_0, b0, lpF10 hi hn, nI_1]
    refine ⟨i, k, a, f, y, u, by omega, rfl, hc, hs3.1, ?_⟩
    refine ⟨fun q => ?_, fun q => ?_⟩
    · rw [if_neg q] at ih; exact ih
    · rw [if_pos q] at ih; exact ih
