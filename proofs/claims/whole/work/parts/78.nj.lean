/-! ===== the model's tape: the store ===== -/
theorem readN_m {B : Nat → Int32} {n : Nat} {E : ES} {w : Int32} : ∀ r i (T : Nat × Nat × Int32) (N : Nat → Int32), T.2.1 ≤ n → T.2.1 ≤ (readN B n E w r i T N).2.1.2.1
  | 0, _, T, _, _ => Nat.le_refl T.2.1
  | r + 1, i, T, N, h => by
    have g := nextB_b B h
    rw [readN_s]
    by_cases q : numB B (nextB B n T.2.1) (mostN E w (nI i))
    · rw [if_pos q]
      have := readN_m r (i + 1) (nextB B n T.2.1) (on1 N i (valB B (nextB B n T.2.1).1 ((nextB B n T.2.1).2.1 - (nextB B n T.2.1).1))) g.2.2.1 (B := B) (E := E) (w := w)
      omega
    · rw [if_neg q]
      show T.2.1 ≤ (nextB B n T.2.1).2.1
      omega
theorem stmtB_m {B : Nat → Int32} {n : Nat} {E : ES} {T : Nat × Nat × Int32} (h2 : T.2.1 ≤ n) : T.2.1 ≤ (stmtB B n E T).2.1.2.1 := by
  unfold stmtB
  split
  · exact Nat.le_refl T.2.1
  · exact readN_m _ _ T _ h2
theorem okM_wipe {G : GV} (hI : okM G) : okM (uT G 0 (vB G)) := by
  obtain ⟨T, h1, h2, h3, h4, h5⟩ := hI
  exact ⟨T, h1, h2, h3, ⟨0, by omega, rfl⟩, h5⟩
theorem frQ_80 {h h' : AH} (p1 : ∀ c' k, c' ≠ 80 → gI h' c' k = gI h c' k) (p2 : ∀ c' k, gJ h' c' k = gJ h c' k) : frQ h h' := ⟨fun c k hc => p1 c k (fun z => hc (by unfold isQ; omega)), p2⟩
theorem ea_80 {h h' : AH} (p : frS h h') : estA h' 80 = estA h 80 := ea_fr (fun k => p.1 80 k (by unfold isM; omega))
theorem simM_w {h : AH} {G : GV} (hG : simM h G) : simM (pI h 64 11 0) (uT G 0 (vB G)) := simM_tp hG (fun c k hc => gI_no (by omega)) gI_yes (fun i hi => absurd hi (by rw [show ((0 : Int32).toNatClampNeg) = 0 by decide]; omega))
def P_X6_store : Sp0T := fun as h K => match as with
  | [.ref x] => x = 64 ∧ XM h (fun G => g_store G) K
  | _ => False
def S_X6_store : SpT := lift P_X6_store
def L_X6_store_78 : List Item := (78, .aload_n 0, [], nS) :: (79, .aload_n 0, [], nS) :: (80, .getfield 56, [6, 23, 1], nS) :: (83, .invokevirtual 184, [1, 6, 0, 0], S_X6_again) :: (86, .aload_n 0, [], nS) :: (87, .iconst 0, [], nS) :: (88, .putfield 115, [6, 11, 0], nS) :: (91, .aload_n 0, [], nS) :: (92, .sipush (-1002), [], nS) :: (95, .invokevirtual 82, [1, 6, 0, 0], S_X6_no) :: (98, .pop, [], nS) :: (99, .sipush (-2000), [], nS) :: (102, .aload_n 0, [], nS) :: (103, .getfield 121, [6, 13, 0], nS) :: (106, .isub, [], nS) :: (107, .ireturn, [], nS) :: []
def L_X6_store_74 : List Item := (74, .istore_n 2, [], nS) :: (75, .goto (-58), [17], nS) :: L_X6_store_78
def L_X6_store_73 : List Item := (73, .iconst 0, [], nS) :: L_X6_store_74
def L_X6_store_60 : List Item := (60, .aload_n 0, [], nS) :: (61, .getfield 124, [6, 15, 0], nS) :: (64, .bipush 59, [], nS) :: (66, .if_icmp .ne 7, [73], nS) :: (69, .iconst 1, [], nS) :: (70, .goto 4, [74], nS) :: L_X6_store_73
def L_X6_store_37 : List Item := (37, .iinc 1 1, [], nS) :: (40, .aload_n 0, [], nS) :: (41, .invokevirtual 146, [0, 6, 0, 0], S_X6_next) :: (44, .aload_n 0, [], nS) :: (45, .getfield 124, [6, 15, 0], nS) :: (48, .bipush 101, [], nS) :: (50, .if_icmp .ne 10, [60], nS) :: (53, .aload_n 0, [], nS) :: (54, .iconst 0, [], nS) :: (55, .putfield 115, [6, 11, 0], nS) :: (58, .iload_n 1, [], nS) :: (59, .ireturn, [], nS) :: L_X6_store_60
def L_X6_store_17 : List Item := (17, .iload_n 2, [], nS) :: (18, .ifCond .eq 60, [78], nS) :: (21, .aload_n 0, [], nS) :: (22, .invokevirtual 146, [0, 6, 0, 0], S_X6_next) :: (25, .aload_n 0, [], nS) :: (26, .invokevirtual 180, [0, 6, 0, 0], S_X6_statement) :: (29, .istore_n 2, [], nS) :: (30, .iload_n 2, [], nS) :: (31, .ifCond .ne 6, [37], nS) :: (34, .goto (-17), [17], nS) :: L_X6_store_37
def L_X6_store_0 : List Item := (0, .aload_n 0, [], nS) :: (1, .aload_n 0, [], nS) :: (2, .getfield 56, [6, 23, 1], nS) :: (5, .invokevirtual 176, [1, 6, 0, 0], S_X6_keep) :: (8, .aload_n 0, [], nS) :: (9, .iconst 0, [], nS) :: (10, .putfield 118, [6, 14, 0], nS) :: (13, .iconst 0, [], nS) :: (14, .istore_n 1, [], nS) :: (15, .iconst 1, [], nS) :: (16, .istore_n 2, [], nS) :: (17, .nop, [], nS) :: L_X6_store_17
def L_X6_store : List Item := L_X6_store_0
theorem ok_X6_store : okB cX6_store L_X6_store = true := by decide +kernel
theorem lk_X6_store (l : Launch) : LKs l RX6 8 false L_X6_store := ⟨trivial, trivial, ⟨_, _, _, rfl, ⟨(RX6, TX6, 26), rfl, by decide, gT_of (List.mem_of_getElem? (i := 941) (by decide +kernel)) rfl⟩, rfl⟩, ⟨_, _, _, _, _, _, _, _, _, rfl, c_X6_keep l, Or.inl ⟨by decide, yv_X6_keep⟩, by decide, gT_of (List.mem_of_getElem? (i := 1098) (by decide +kernel)) rfl⟩, trivial, trivial, ⟨_, _, _, rfl, ⟨(RX6, TX6, 26), rfl, by decide, gT_of (List.mem_of_getElem? (i := 932) (by decide +kernel)) rfl⟩, rfl, fun q => absurd rfl q⟩, trivial, trivial, trivial, trivial, trivial, trivial, trivial, trivial, ⟨_, _, _, _, _, _, _, _, _, rfl, c_X6_next l, Or.inl ⟨by decide, yv_X6_next⟩, by decide, gT_of (List.mem_of_getElem? (i := 1102) (by decide +kernel)) rfl⟩, trivial, ⟨_, _, _, _, _, _, _, _, _, rfl, c_X6_statement l, Or.inl ⟨by decide, yv_X6_statement⟩, by decide, gT_of (List.mem_of_getElem? (i := 1112) (by decide +kernel)) rfl⟩, trivial, trivial, trivial, trivial, trivial, trivial, ⟨_, _, _, _, _, _, _, _, _, rfl, c_X6_next l, Or.inl ⟨by decide, yv_X6_next⟩, by decide, gT_of (List.mem_of_getElem? (i := 1102) (by decide +kernel)) rfl⟩, trivial, ⟨_, _, _, rfl, ⟨(RX6, TX6, 26), rfl, by decide, gT_of (List.mem_of_getElem? (i := 933) (by decide +kernel)) rfl⟩, rfl⟩, trivial, trivial, trivial, trivial, ⟨_, _, _, rfl, ⟨(RX6, TX6, 26), rfl, by decide, gT_of (List.mem_of_getElem? (i := 929) (by decide +kernel)) rfl⟩, rfl, fun q => absurd rfl q⟩, trivial, trivial, trivial, ⟨_, _, _, rfl, ⟨(RX6, TX6, 26), rfl, by decide, gT_of (List.mem_of_getElem? (i := 933) (by decide +kernel)) rfl⟩, rfl⟩, trivial, trivial, trivial, trivial, trivial, trivial, trivial, trivial, trivial, ⟨_, _, _, rfl, ⟨(RX6, TX6, 26), rfl, by decide, gT_of (List.mem_of_getElem? (i := 941) (by decide +kernel)) rfl⟩, rfl⟩, ⟨_, _, _, _, _, _, _, _, _, rfl, c_X6_again l, Or.inl ⟨by decide, yv_X6_again⟩, by decide, gT_of (List.mem_of_getElem? (i := 1141) (by decide +kernel)) rfl⟩, trivial, trivial, ⟨_, _, _, rfl, ⟨(RX6, TX6, 26), rfl, by decide, gT_of (List.mem_of_getElem? (i := 929) (by decide +kernel)) rfl⟩, rfl, fun q => absurd rfl q⟩, trivial, trivial, ⟨_, _, _, _, _, _, _, _, _, rfl, c_X6_no l, Or.inl ⟨by decide, yv_X6_no⟩, by decide, gT_of (List.mem_of_getElem? (i := 1007) (by decide +kernel)) rfl⟩, trivial, trivial, trivial, ⟨_, _, _, rfl, ⟨(RX6, TX6, 26), rfl, by decide, gT_of (List.mem_of_getElem? (i := 931) (by decide +kernel)) rfl⟩, rfl⟩, trivial, trivial, trivial⟩
theorem b_X6_store_0 : atL L_X6_store 0 = L_X6_store_0 := rfl
theorem b_X6_store_17 : atL L_X6_store 17 = L_X6_store_17 := rfl
theorem b_X6_store_37 : atL L_X6_store 37 = L_X6_store_37 := rfl
theorem b_X6_store_60 : atL L_X6_store 60 = L_X6_store_60 := rfl
theorem b_X6_store_73 : atL L_X6_store 73 = L_X6_store_73 := rfl
theorem b_X6_store_74 : atL L_X6_store 74 = L_X6_store_74 := rfl
theorem b_X6_store_78 : atL L_X6_store 78 = L_X6_store_78 := rfl
theorem a_X6_store_37 : afw L_X6_store [17] 37 = L_X6_store_37 := rfl
theorem a_X6_store_60 : afw L_X6_store [17] 60 = L_X6_store_60 := rfl
theorem a_X6_store_73 : afw L_X6_store [17] 73 = L_X6_store_73 := rfl
theorem a_X6_store_74 : afw L_X6_store [17] 74 = L_X6_store_74 := rfl
theorem a_X6_store_78 : afw L_X6_store [17] 78 = L_X6_store_78 := rfl
theorem a_X6_store_17 : afw L_X6_store [17] 17 = [] := rfl
theorem yv_X6_store : YV yX6_store cX6_store 3 (some .int) 0 6 := ⟨⟨gT_of (List.mem_of_getElem? (i := 1097) (by decide +kernel)) rfl, gT_of (List.mem_of_getElem? (i := 74) (by decide +kernel)) rfl, ⟨by decide, by decide⟩, by decide +kernel, by decide⟩, gT_of (List.mem_of_getElem? (i := 1095) (by decide +kernel)) rfl, gT_of (List.mem_of_getElem? (i := 1096) (by decide +kernel)) rfl, rfl⟩
theorem u_X6_store_0 : L_X6_store_0 = (0, .aload_n 0, [], nS) :: (1, .aload_n 0, [], nS) :: (2, .getfield 56, [6, 23, 1], nS) :: (5, .invokevirtual 176, [1, 6, 0, 0], S_X6_keep) :: (8, .aload_n 0, [], nS) :: (9, .iconst 0, [], nS) :: (10, .putfield 118, [6, 14, 0], nS) :: (13, .iconst 0, [], nS) :: (14, .istore_n 1, [], nS) :: (15, .iconst 1, [], nS) :: (16, .istore_n 2, [], nS) :: (17, .nop, [], nS) :: L_X6_store_17 := nr rfl
theorem u_X6_store_17 : L_X6_store_17 = (17, .iload_n 2, [], nS) :: (18, .ifCond .eq 60, [78], nS) :: (21, .aload_n 0, [], nS) :: (22, .invokevirtual 146, [0, 6, 0, 0], S_X6_next) :: (25, .aload_n 0, [], nS) :: (26, .invokevirtual 180, [0, 6, 0, 0], S_X6_statement) :: (29, .istore_n 2, [], nS) :: (30, .iload_n 2, [], nS) :: (31, .ifCond .ne 6, [37], nS) :: (34, .goto (-17), [17], nS) :: L_X6_store_37 := nr rfl
theorem u_X6_store_37 : L_X6_store_37 = (37, .iinc 1 1, [], nS) :: (40, .aload_n 0, [], nS) :: (41, .invokevirtual 146, [0, 6, 0, 0], S_X6_next) :: (44, .aload_n 0, [], nS) :: (45, .getfield 124, [6, 15, 0], nS) :: (48, .bipush 101, [], nS) :: (50, .if_icmp .ne 10, [60], nS) :: (53, .aload_n 0, [], nS) :: (54, .iconst 0, [], nS) :: (55, .putfield 115, [6, 11, 0], nS) :: (58, .iload_n 1, [], nS) :: (59, .ireturn, [], nS) :: L_X6_store_60 := nr rfl
theorem u_X6_store_60 : L_X6_store_60 = (60, .aload_n 0, [], nS) :: (61, .getfield 124, [6, 15, 0], nS) :: (64, .bipush 59, [], nS) :: (66, .if_icmp .ne 7, [73], nS) :: (69, .iconst 1, [], nS) :: (70, .goto 4, [74], nS) :: L_X6_store_73 := nr rfl
theorem u_X6_store_73 : L_X6_store_73 = (73, .iconst 0, [], nS) :: L_X6_store_74 := nr rfl
theorem u_X6_store_74 : L_X6_store_74 = (74, .istore_n 2, [], nS) :: (75, .goto (-58), [17], nS) :: L_X6_store_78 := nr rfl
theorem u_X6_store_78 : L_X6_store_78 = (78, .aload_n 0, [], nS) :: (79, .aload_n 0, [], nS) :: (80, .getfield 56, [6, 23, 1], nS) :: (83, .invokevirtual 184, [1, 6, 0, 0], S_X6_again) :: (86, .aload_n 0, [], nS) :: (87, .iconst 0, [], nS) :: (88, .putfield 115, [6, 11, 0], nS) :: (91, .aload_n 0, [], nS) :: (92, .sipush (-1002), [], nS) :: (95, .invokevirtual 82, [1, 6, 0, 0], S_X6_no) :: (98, .pop, [], nS) :: (99, .sipush (-2000), [], nS) :: (102, .aload_n 0, [], nS) :: (103, .getfield 121, [6, 13, 0], nS) :: (106, .isub, [], nS) :: (107, .ireturn, [], nS) :: [] := nr rfl
theorem z_X6_store_0 : atL L_X6_store 0 = L_X6_store_0 := nr rfl
theorem z_X6_store_17 : atL L_X6_store 17 = L_X6_store_17 := nr rfl
theorem z_X6_store_37 : atL L_X6_store 37 = L_X6_store_37 := nr rfl
theorem z_X6_store_60 : atL L_X6_store 60 = L_X6_store_60 := nr rfl
theorem z_X6_store_73 : atL L_X6_store 73 = L_X6_store_73 := nr rfl
theorem z_X6_store_74 : atL L_X6_store 74 = L_X6_store_74 := nr rfl
theorem z_X6_store_78 : atL L_X6_store 78 = L_X6_store_78 := nr rfl
theorem j_X6_store_37 {G : List Item → SpS → List Value → List Value → AH → Prop} {J : Nat → SpS → List Value → List Value → AH → Prop} {S : SpS} {lv st : List Value} {h : AH} : jmp G J (afw L_X6_store [17] 37) 37 S lv st h = G L_X6_store_37 S lv st h := nr rfl
theorem j_X6_store_60 {G : List Item → SpS → List Value → List Value → AH → Prop} {J : Nat → SpS → List Value → List Value → AH → Prop} {S : SpS} {lv st : List Value} {h : AH} : jmp G J (afw L_X6_store [17] 60) 60 S lv st h = G L_X6_store_60 S lv st h := nr rfl
theorem j_X6_store_73 {G : List Item → SpS → List Value → List Value → AH → Prop} {J : Nat → SpS → List Value → List Value → AH → Prop} {S : SpS} {lv st : List Value} {h : AH} : jmp G J (afw L_X6_store [17] 73) 73 S lv st h = G L_X6_store_73 S lv st h := nr rfl
theorem j_X6_store_74 {G : List Item → SpS → List Value → List Value → AH → Prop} {J : Nat → SpS → List Value → List Value → AH → Prop} {S : SpS} {lv st : List Value} {h : AH} : jmp G J (afw L_X6_store [17] 74) 74 S lv st h = G L_X6_store_74 S lv st h := nr rfl
theorem j_X6_store_78 {G : List Item → SpS → List Value → List Value → AH → Prop} {J : Nat → SpS → List Value → List Value → AH → Prop} {S : SpS} {lv st : List Value} {h : AH} : jmp G J (afw L_X6_store [17] 78) 78 S lv st h = G L_X6_store_78 S lv st h := nr rfl
theorem j_X6_store_17 {G : List Item → SpS → List Value → List Value → AH → Prop} {J : Nat → SpS → List Value → List Value → AH → Prop} {S : SpS} {lv st : List Value} {h : AH} : jmp G J (afw L_X6_store [17] 17) 17 S lv st h = J 17 S lv st h := nr rfl
theorem e_X6_store {x : Addr} {h : AH} {K2 : Option Value → SpS → AH → Prop} : S_X6_store SH0 [.ref x] h K2 = (fun (K : Option Value → AH → Prop) => x = 64 ∧ XM h (fun G => g_store G) K) (fun v h' => K2 v SH0 h') := (lift_e P_X6_store [.ref x] h K2).trans (nr rfl)
set_option maxRecDepth 100000 in
set_option maxHeartbeats 4000000 in
theorem c_X6_store (l : Launch) : Ct l yX6_store cX6_store 3 (some .int) 8 0 0 S_X6_store := by
  refine Ct0_mk L_X6_store [17] (by decide +kernel) (by decide) ok_X6_store (lk_X6_store l) ?_
  intro as h K hP
  match as, hP with
  | [.ref x], ⟨hx, G, hG, hI, hK⟩ =>
  refine ⟨by simp [slotsN, Value.category], fun J hJ => ?_⟩
  subst hx
  dsimp only at hK
  have hE : estM h = vE G := hG.1
  have ho := okG_ok (okM_G hI)
  have ho2 := okG_t (okM_G hI)
  have hn : cnt (vE G) ≤ 10 := okG_n (okM_G hI)
  have c4 : gI h 64 2 = nI (cnt (vE G)) := by rw [← hE]; exact em_c (hE ▸ ho)
  obtain ⟨n, hn250, eS⟩ := okG_s (okM_G hI)
  have hS : gI h 64 11 = nI n := hG.2.2.1.1.trans eS
  have hB := hG.2.2.1.2
  rw [eS, nI_clamp (show n < 2 ^ 31 by omega)] at hB
  have eG : intoS G = intoB (gI h 74) n 250 1 (nextB (gI h 74) n 0) (vE G) := by
    unfold intoS
    rw [eS, ix_m (j := n) (by omega), nextB_x (B := vB G) (B' := gI h 74) (fun i hi => (hB i hi).symm) (Nat.zero_le n)]
    have g := nextB_g (gI h 74) (Nat.zero_le n)
    exact intoB_x (fun i hi => (hB i hi).symm) _ _ _ _ g.1 g.2.1
  unfold g_store at hK
  rw [eG] at hK
  clear eG
  generalize hBB : gI h 74 = B at *
  generalize hR : intoB B n 250 1 (nextB B n 0) (vE G) = R at *
  have fail : ∀ h' a, R.1 = -1 → gI h' 64 13 = nI R.2.1.1 → frQ h h' → estA h' 80 = vE G → J 17 SH0 [.ref 64, .int (nI a), .int 0] [] h' := by
    intro h' a r1 r2 f1 e1
    simp only [if_pos r1] at hK
    refine hJ 17 _ _ _ _ ?_
    simp only [z_X6_store_17, u_X6_store_0, u_X6_store_17, u_X6_store_37, u_X6_store_60, u_X6_store_73, u_X6_store_74, u_X6_store_78, j_X6_store_17, j_X6_store_37, j_X6_store_60, j_X6_store_73, j_X6_store_74, j_X6_store_78, ev_aload_n0, ev_getfR, ev_callV1, ev_iconst, ev_putfI, ev_istore_n1, ev_istore_n2, ev_nop, ev_iload_n2, ev_if_eq, ev_callV0, ev_if_ne, ev_goto, ev_iinc1, ev_getfI, ev_bipush, ev_ic_ne, ev_iload_n1, ev_iret, ro_i, ro_z, ev_sipush, ev_pop_int, ev_pop_ref, ev_isub, ↓e_X6_again, ↓e_X6_keep, ↓e_X6_next, ↓e_X6_no, ↓e_X6_statement, vq3_0, vq3_1, vq3_2, cq_0, cq_1, cq_2, capO_z, kb_6, kb_7, kb_8, kb_9, kb_10, kb_12, kb_16, kb_20, kb_21, kb_30, kb_32, kb_40, kb_48, kb_50, kb_57, kb_59, kb_60, kb_63, kb_70, kb_78, kb_81, kb_82, kb_84, kb_97, kb_99, kb_100, kb_101, kb_119, kb_120, kb_122, ki_m1, ki_0, ki_1, ki_2, ki_3, ki_4, ki_5, ki_6, ki_7, ki_8, ki_9, ki_10, ki_11, ki_12, ki_13, ki_14, ki_15, ki_16, ki_17, ki_18, ki_19, ki_20, ki_21, ki_22, ki_23, ki_24, ki_25, ki_26, ki_27, ki_28, ki_29, ki_30, ki_31, ki_32, ki_33, ki_34, ki_35, ki_36, ki_37, ki_38, ki_39, ki_40, ki_41, ki_42, ki_43, ki_44, ki_45, ki_46, ki_47, ki_48, ki_49, ki_50, ki_51, ki_52, ki_53, ki_54, ki_55, ki_56, ki_57, ki_58, ki_59, ki_60, ki_61, ki_62, ki_63, ks_m2000, ks_m1006, ks_m1005, ks_m1004, ks_m1003, ks_m1002, ks_m1000, ks_200, ks_250, ks_255, ks_256, ks_320, ks_660, ks_999, ks_1000, ks_9999, ks_12345, ne_2, ne_10, t_0, t_40, t_41, t_42, t_43, t_44, t_45, t_46, t_47, t_64, t_65, t_66, t_67, t_68, t_69, t_70, t_71, t_72, t_73, t_74, t_75, t_76, t_77, t_78, t_79, t_80, t_81, t_82, r_0_0, r_0_1, r_0_2, r_0_4, r_0_5, r_0_6, r_0_7, r_40_0, r_40_5, r_44_0, r_44_1, r_64_0, r_64_1, r_64_3, r_64_4, r_64_5, r_64_6, r_64_7, r_64_8, r_64_9, r_64_12, r_64_17, r_64_18, r_64_19, r_64_20, r_64_22, r_64_23, r_64_24, r_64_25, t_1, t_14, t_27, t_2, t_15, t_28, Nat.reduceEqDiff, ne_eq, not_false_eq_true, false_implies, true_implies, implies_true, Nat.reduceAdd, Nat.reduceLeDiff, Nat.reduceLT, Nat.reduceMul, or_true, true_or, if_true, if_false, not_true_eq_false, and_self, bF, Nat.reduceBEq, Bool.false_and, Bool.and_false, Bool.or_self, Bool.or_false, Bool.false_or, Bool.false_eq_true, Int.reduceAdd, Bool.and_self, Bool.true_and, Bool.and_true, beq_self_eq_true, not_not_, i10_, i01_, List.length_nil, List.length_cons, true_and, and_true, false_and, and_false, kl_i, kl_a, kl_n, kl_l, tl_s, tl_n, rv_S, pd_0, pd_e, pd_r, pd_i, pd_l, zero_z]
    refine ⟨80, rfl, isA80, by rw [e1]; exact ho, fun h4 e4 f4 => ?_⟩
    have g13 : gI (refM (pI h4 64 11 0) (-1002)) 64 13 = nI R.2.1.1 := by
      unfold refM
      rw [gI_no (by omega), gI_no (by omega), f4.1 64 13 (by unfold isM; omega)]
      exact r2
    have f5 : frQ h h4 := frQ_tr f1 (frQ_M f4)
    have s4 : simM h4 G := simM_Q hG (e4.trans e1) f5
    have yes := hK _ (simM_ref (okM_wipe hI) (simM_w s4) kc2) (frY_tr (frY_Q f5) (frY_tr (frY_p (frY_rf h4) (by omega)) (frY_ref _ _)))
    simp only [u_X6_store_0, u_X6_store_17, u_X6_store_37, u_X6_store_60, u_X6_store_73, u_X6_store_74, u_X6_store_78, j_X6_store_17, j_X6_store_37, j_X6_store_60, j_X6_store_73, j_X6_store_74, j_X6_store_78, ev_aload_n0, ev_getfR, ev_callV1, ev_iconst, ev_putfI, ev_istore_n1, ev_istore_n2, ev_nop, ev_iload_n2, ev_if_eq, ev_callV0, ev_if_ne, ev_goto, ev_iinc1, ev_getfI, ev_bipush, ev_ic_ne, ev_iload_n1, ev_iret, ro_i, ro_z, ev_sipush, ev_pop_int, ev_pop_ref, ev_isub, ↓e_X6_again, ↓e_X6_keep, ↓e_X6_next, ↓e_X6_no, ↓e_X6_statement, vq3_0, vq3_1, vq3_2, cq_0, cq_1, cq_2, capO_z, kb_6, kb_7, kb_8, kb_9, kb_10, kb_12, kb_16, kb_20, kb_21, kb_30, kb_32, kb_40, kb_48, kb_50, kb_57, kb_59, kb_60, kb_63, kb_70, kb_78, kb_81, kb_82, kb_84, kb_97, kb_99, kb_100, kb_101, kb_119, kb_120, kb_122, ki_m1, ki_0, ki_1, ki_2, ki_3, ki_4, ki_5, ki_6, ki_7, ki_8, ki_9, ki_10, ki_11, ki_12, ki_13, ki_14, ki_15, ki_16, ki_17, ki_18, ki_19, ki_20, ki_21, ki_22, ki_23, ki_24, ki_25, ki_26, ki_27, ki_28, ki_29, ki_30, ki_31, ki_32, ki_33, ki_34, ki_35, ki_36, ki_37, ki_38, ki_39, ki_40, ki_41, ki_42, ki_43, ki_44, ki_45, ki_46, ki_47, ki_48, ki_49, ki_50, ki_51, ki_52, ki_53, ki_54, ki_55, ki_56, ki_57, ki_58, ki_59, ki_60, ki_61, ki_62, ki_63, ks_m2000, ks_m1006, ks_m1005, ks_m1004, ks_m1003, ks_m1002, ks_m1000, ks_200, ks_250, ks_255, ks_256, ks_320, ks_660, ks_999, ks_1000, ks_9999, ks_12345, ne_2, ne_10, t_0, t_40, t_41, t_42, t_43, t_44, t_45, t_46, t_47, t_64, t_65, t_66, t_67, t_68, t_69, t_70, t_71, t_72, t_73, t_74, t_75, t_76, t_77, t_78, t_79, t_80, t_81, t_82, r_0_0, r_0_1, r_0_2, r_0_4, r_0_5, r_0_6, r_0_7, r_40_0, r_40_5, r_44_0, r_44_1, r_64_0, r_64_1, r_64_3, r_64_4, r_64_5, r_64_6, r_64_7, r_64_8, r_64_9, r_64_12, r_64_17, r_64_18, r_64_19, r_64_20, r_64_22, r_64_23, r_64_24, r_64_25, t_1, t_14, t_27, t_2, t_15, t_28, Nat.reduceEqDiff, ne_eq, not_false_eq_true, false_implies, true_implies, implies_true, Nat.reduceAdd, Nat.reduceLeDiff, Nat.reduceLT, Nat.reduceMul, or_true, true_or, if_true, if_false, not_true_eq_false, and_self, bF, Nat.reduceBEq, Bool.false_and, Bool.and_false, Bool.or_self, Bool.or_false, Bool.false_or, Bool.false_eq_true, Int.reduceAdd, Bool.and_self, Bool.true_and, Bool.and_true, beq_self_eq_true, not_not_, i10_, i01_, List.length_nil, List.length_cons, true_and, and_true, false_and, and_false, kl_i, kl_a, kl_n, kl_l, tl_s, tl_n, rv_S, pd_0, pd_e, pd_r, pd_i, pd_l, ic_2, g13]
    exact yes
  have key : ∀ r a e h1 E1, a + r = 250 → 1 ≤ r → e ≤ n → intoB B n r (a + 1) (nextB B n e) E1 = R → ((nextB B n e).2.2 = 4 ∨ 251 ≤ r + (nextB B n e).2.1) → gI h1 64 14 = nI e → frQ h h1 → estA h1 80 = vE G → estM h1 = E1 → okE E1 → J 17 SH0 [.ref 64, .int (nI a), .int 1] [] h1 := by
    intro r
    induction r with
    | zero => intro a e h1 E1 _ h0; omega
    | succ r ih =>
      intro a e h1 E1 ha h0 he hR1 hfu g14 f1 a1 e1 o1
      have b1 : gI h1 64 11 = nI n := (f1.1 64 11 (by unfold isQ; omega)).trans hS
      have bB : gI h1 74 = B := (funext fun k => f1.1 74 k (by unfold isQ; omega)).trans hBB
      have gT := nextB_g B he
      have bT := nextB_b B he
      rw [intoB_s] at hR1
      refine hJ 17 _ _ _ _ ?_
      simp only [z_X6_store_17, u_X6_store_0, u_X6_store_17, u_X6_store_37, u_X6_store_60, u_X6_store_73, u_X6_store_74, u_X6_store_78, j_X6_store_17, j_X6_store_37, j_X6_store_60, j_X6_store_73, j_X6_store_74, j_X6_store_78, ev_aload_n0, ev_getfR, ev_callV1, ev_iconst, ev_putfI, ev_istore_n1, ev_istore_n2, ev_nop, ev_iload_n2, ev_if_eq, ev_callV0, ev_if_ne, ev_goto, ev_iinc1, ev_getfI, ev_bipush, ev_ic_ne, ev_iload_n1, ev_iret, ro_i, ro_z, ev_sipush, ev_pop_int, ev_pop_ref, ev_isub, ↓e_X6_again, ↓e_X6_keep, ↓e_X6_next, ↓e_X6_no, ↓e_X6_statement, vq3_0, vq3_1, vq3_2, cq_0, cq_1, cq_2, capO_z, kb_6, kb_7, kb_8, kb_9, kb_10, kb_12, kb_16, kb_20, kb_21, kb_30, kb_32, kb_40, kb_48, kb_50, kb_57, kb_59, kb_60, kb_63, kb_70, kb_78, kb_81, kb_82, kb_84, kb_97, kb_99, kb_100, kb_101, kb_119, kb_120, kb_122, ki_m1, ki_0, ki_1, ki_2, ki_3, ki_4, ki_5, ki_6, ki_7, ki_8, ki_9, ki_10, ki_11, ki_12, ki_13, ki_14, ki_15, ki_16, ki_17, ki_18, ki_19, ki_20, ki_21, ki_22, ki_23, ki_24, ki_25, ki_26, ki_27, ki_28, ki_29, ki_30, ki_31, ki_32, ki_33, ki_34, ki_35, ki_36, ki_37, ki_38, ki_39, ki_40, ki_41, ki_42, ki_43, ki_44, ki_45, ki_46, ki_47, ki_48, ki_49, ki_50, ki_51, ki_52, ki_53, ki_54, ki_55, ki_56, ki_57, ki_58, ki_59, ki_60, ki_61, ki_62, ki_63, ks_m2000, ks_m1006, ks_m1005, ks_m1004, ks_m1003, ks_m1002, ks_m1000, ks_200, ks_250, ks_255, ks_256, ks_320, ks_660, ks_999, ks_1000, ks_9999, ks_12345, ne_2, ne_10, t_0, t_40, t_41, t_42, t_43, t_44, t_45, t_46, t_47, t_64, t_65, t_66, t_67, t_68, t_69, t_70, t_71, t_72, t_73, t_74, t_75, t_76, t_77, t_78, t_79, t_80, t_81, t_82, r_0_0, r_0_1, r_0_2, r_0_4, r_0_5, r_0_6, r_0_7, r_40_0, r_40_5, r_44_0, r_44_1, r_64_0, r_64_1, r_64_3, r_64_4, r_64_5, r_64_6, r_64_7, r_64_8, r_64_9, r_64_12, r_64_17, r_64_18, r_64_19, r_64_20, r_64_22, r_64_23, r_64_24, r_64_25, t_1, t_14, t_27, t_2, t_15, t_28, Nat.reduceEqDiff, ne_eq, not_false_eq_true, false_implies, true_implies, implies_true, Nat.reduceAdd, Nat.reduceLeDiff, Nat.reduceLT, Nat.reduceMul, or_true, true_or, if_true, if_false, not_true_eq_false, and_self, bF, Nat.reduceBEq, Bool.false_and, Bool.and_false, Bool.or_self, Bool.or_false, Bool.false_or, Bool.false_eq_true, Int.reduceAdd, Bool.and_self, Bool.true_and, Bool.and_true, beq_self_eq_true, not_not_, i10_, i01_, List.length_nil, List.length_cons, true_and, and_true, false_and, and_false, kl_i, kl_a, kl_n, kl_l, tl_s, tl_n, rv_S, pd_0, pd_e, pd_r, pd_i, pd_l, one_z]
      refine ⟨n, e, hn250, he, b1, g14, ?_⟩
      rw [bB]
      intro h2 t2 f2
      have e2 : estM h2 = E1 := (frR_E f2).trans e1
      refine ⟨by rw [e2]; exact o1, n, B, nextB B n e, hn250, gT, ((frR_B f2).trans bB).symm, (frR_S f2).trans b1, t2, ?_⟩
      rw [e2]
      have bS := stmtB_b (B := B) E1 gT.1 gT.2.1
      have mS := stmtB_m (B := B) (E := E1) gT.2.1
      have oS := stmtB_ok (B := B) (T := nextB B n e) o1 gT.2.1
      have nS : (nextB B n e).2.2 = 4 → ¬ (stmtB B n E1 (nextB B n e)).1 = true := fun z y => by
        have hw : wordB B (nextB B n e) = -1 := if_neg (by rw [z]; decide)
        unfold stmtB at y
        rw [if_pos (Or.inl hw)] at y
        exact absurd (show false = true from y) (by decide)
      generalize stmtB B n E1 (nextB B n e) = S at *
      intro h3 t3 e3 f3
      have f13 := frS_tr (frS_R f2) f3
      have fq : frQ h h3 := frQ_tr f1 (frQ_S f13)
      have a3 : estA h3 80 = vE G := (ea_80 f13).trans a1
      by_cases q : S.1 = true
      · rw [if_neg (fun z => z q)] at hR1
        have b3 : gI h3 64 11 = nI n := (frS_S f13).trans b1
        have bB3 : gI h3 74 = B := (frS_B f13).trans bB
        simp only [u_X6_store_0, u_X6_store_17, u_X6_store_37, u_X6_store_60, u_X6_store_73, u_X6_store_74, u_X6_store_78, j_X6_store_17, j_X6_store_37, j_X6_store_60, j_X6_store_73, j_X6_store_74, j_X6_store_78, ev_aload_n0, ev_getfR, ev_callV1, ev_iconst, ev_putfI, ev_istore_n1, ev_istore_n2, ev_nop, ev_iload_n2, ev_if_eq, ev_callV0, ev_if_ne, ev_goto, ev_iinc1, ev_getfI, ev_bipush, ev_ic_ne, ev_iload_n1, ev_iret, ro_i, ro_z, ev_sipush, ev_pop_int, ev_pop_ref, ev_isub, ↓e_X6_again, ↓e_X6_keep, ↓e_X6_next, ↓e_X6_no, ↓e_X6_statement, vq3_0, vq3_1, vq3_2, cq_0, cq_1, cq_2, capO_z, kb_6, kb_7, kb_8, kb_9, kb_10, kb_12, kb_16, kb_20, kb_21, kb_30, kb_32, kb_40, kb_48, kb_50, kb_57, kb_59, kb_60, kb_63, kb_70, kb_78, kb_81, kb_82, kb_84, kb_97, kb_99, kb_100, kb_101, kb_119, kb_120, kb_122, ki_m1, ki_0, ki_1, ki_2, ki_3, ki_4, ki_5, ki_6, ki_7, ki_8, ki_9, ki_10, ki_11, ki_12, ki_13, ki_14, ki_15, ki_16, ki_17, ki_18, ki_19, ki_20, ki_21, ki_22, ki_23, ki_24, ki_25, ki_26, ki_27, ki_28, ki_29, ki_30, ki_31, ki_32, ki_33, ki_34, ki_35, ki_36, ki_37, ki_38, ki_39, ki_40, ki_41, ki_42, ki_43, ki_44, ki_45, ki_46, ki_47, ki_48, ki_49, ki_50, ki_51, ki_52, ki_53, ki_54, ki_55, ki_56, ki_57, ki_58, ki_59, ki_60, ki_61, ki_62, ki_63, ks_m2000, ks_m1006, ks_m1005, ks_m1004, ks_m1003, ks_m1002, ks_m1000, ks_200, ks_250, ks_255, ks_256, ks_320, ks_660, ks_999, ks_1000, ks_9999, ks_12345, ne_2, ne_10, t_0, t_40, t_41, t_42, t_43, t_44, t_45, t_46, t_47, t_64, t_65, t_66, t_67, t_68, t_69, t_70, t_71, t_72, t_73, t_74, t_75, t_76, t_77, t_78, t_79, t_80, t_81, t_82, r_0_0, r_0_1, r_0_2, r_0_4, r_0_5, r_0_6, r_0_7, r_40_0, r_40_5, r_44_0, r_44_1, r_64_0, r_64_1, r_64_3, r_64_4, r_64_5, r_64_6, r_64_7, r_64_8, r_64_9, r_64_12, r_64_17, r_64_18, r_64_19, r_64_20, r_64_22, r_64_23, r_64_24, r_64_25, t_1, t_14, t_27, t_2, t_15, t_28, Nat.reduceEqDiff, ne_eq, not_false_eq_true, false_implies, true_implies, implies_true, Nat.reduceAdd, Nat.reduceLeDiff, Nat.reduceLT, Nat.reduceMul, or_true, true_or, if_true, if_false, not_true_eq_false, and_self, bF, Nat.reduceBEq, Bool.false_and, Bool.and_false, Bool.or_self, Bool.or_false, Bool.false_or, Bool.false_eq_true, Int.reduceAdd, Bool.and_self, Bool.true_and, Bool.and_true, beq_self_eq_true, not_not_, i10_, i01_, List.length_nil, List.length_cons, true_and, and_true, false_and, and_false, kl_i, kl_a, kl_n, kl_l, tl_s, tl_n, rv_S, pd_0, pd_e, pd_r, pd_i, pd_l, b2i_t q, one_z, nI_1]
        refine ⟨n, S.2.1.2.1, hn250, bS.2, b3, t3.2.1, ?_⟩
        rw [bB3]
        have bT2 := nextB_b B bS.2
        intro h4 t4 f4
        have fq4 : frQ h h4 := frQ_tr fq (frQ_S (frS_R f4))
        have a4 : estA h4 80 = vE G := (ea_80 (frS_R f4)).trans a3
        have e4 : estM h4 = S.2.2 := (frR_E f4).trans e3
        by_cases q2 : (nextB B n S.2.1.2.1).2.2 = 4
        · rw [if_pos q2] at hR1
          have r1 : R.1 = nI (a + 1) := by rw [← hR1]
          have r2 : R.2.2 = S.2.2 := by rw [← hR1]
          have nm : ¬ R.1 = -1 := by rw [r1]; exact of_eq_false (nI_mm (by omega))
          simp only [if_neg nm] at hK
          have s4 : simM h4 (uE G R.2.2) := simM_E hG (e4.trans r2.symm) fq4
          have yes := hK _ (simM_w s4) (frY_tr (frY_Q fq4) (frY_p (frY_rf h4) (by omega)))
          rw [r1] at yes
          simp only [u_X6_store_0, u_X6_store_17, u_X6_store_37, u_X6_store_60, u_X6_store_73, u_X6_store_74, u_X6_store_78, j_X6_store_17, j_X6_store_37, j_X6_store_60, j_X6_store_73, j_X6_store_74, j_X6_store_78, ev_aload_n0, ev_getfR, ev_callV1, ev_iconst, ev_putfI, ev_istore_n1, ev_istore_n2, ev_nop, ev_iload_n2, ev_if_eq, ev_callV0, ev_if_ne, ev_goto, ev_iinc1, ev_getfI, ev_bipush, ev_ic_ne, ev_iload_n1, ev_iret, ro_i, ro_z, ev_sipush, ev_pop_int, ev_pop_ref, ev_isub, ↓e_X6_again, ↓e_X6_keep, ↓e_X6_next, ↓e_X6_no, ↓e_X6_statement, vq3_0, vq3_1, vq3_2, cq_0, cq_1, cq_2, capO_z, kb_6, kb_7, kb_8, kb_9, kb_10, kb_12, kb_16, kb_20, kb_21, kb_30, kb_32, kb_40, kb_48, kb_50, kb_57, kb_59, kb_60, kb_63, kb_70, kb_78, kb_81, kb_82, kb_84, kb_97, kb_99, kb_100, kb_101, kb_119, kb_120, kb_122, ki_m1, ki_0, ki_1, ki_2, ki_3, ki_4, ki_5, ki_6, ki_7, ki_8, ki_9, ki_10, ki_11, ki_12, ki_13, ki_14, ki_15, ki_16, ki_17, ki_18, ki_19, ki_20, ki_21, ki_22, ki_23, ki_24, ki_25, ki_26, ki_27, ki_28, ki_29, ki_30, ki_31, ki_32, ki_33, ki_34, ki_35, ki_36, ki_37, ki_38, ki_39, ki_40, ki_41, ki_42, ki_43, ki_44, ki_45, ki_46, ki_47, ki_48, ki_49, ki_50, ki_51, ki_52, ki_53, ki_54, ki_55, ki_56, ki_57, ki_58, ki_59, ki_60, ki_61, ki_62, ki_63, ks_m2000, ks_m1006, ks_m1005, ks_m1004, ks_m1003, ks_m1002, ks_m1000, ks_200, ks_250, ks_255, ks_256, ks_320, ks_660, ks_999, ks_1000, ks_9999, ks_12345, ne_2, ne_10, t_0, t_40, t_41, t_42, t_43, t_44, t_45, t_46, t_47, t_64, t_65, t_66, t_67, t_68, t_69, t_70, t_71, t_72, t_73, t_74, t_75, t_76, t_77, t_78, t_79, t_80, t_81, t_82, r_0_0, r_0_1, r_0_2, r_0_4, r_0_5, r_0_6, r_0_7, r_40_0, r_40_5, r_44_0, r_44_1, r_64_0, r_64_1, r_64_3, r_64_4, r_64_5, r_64_6, r_64_7, r_64_8, r_64_9, r_64_12, r_64_17, r_64_18, r_64_19, r_64_20, r_64_22, r_64_23, r_64_24, r_64_25, t_1, t_14, t_27, t_2, t_15, t_28, Nat.reduceEqDiff, ne_eq, not_false_eq_true, false_implies, true_implies, implies_true, Nat.reduceAdd, Nat.reduceLeDiff, Nat.reduceLT, Nat.reduceMul, or_true, true_or, if_true, if_false, not_true_eq_false, and_self, bF, Nat.reduceBEq, Bool.false_and, Bool.and_false, Bool.or_self, Bool.or_false, Bool.false_or, Bool.false_eq_true, Int.reduceAdd, Bool.and_self, Bool.true_and, Bool.and_true, beq_self_eq_true, not_not_, i10_, i01_, List.length_nil, List.length_cons, true_and, and_true, false_and, and_false, kl_i, kl_a, kl_n, kl_l, tl_s, tl_n, rv_S, pd_0, pd_e, pd_r, pd_i, pd_l, t4.2.2.1, tk_e, eq_true q2]
          exact yes
        · rw [if_neg q2] at hR1
          by_cases q3 : (nextB B n S.2.1.2.1).2.2 = 2
          · rw [if_pos q3] at hR1
            have lt := bT2.2.2.2 q2
            have bT3 := nextB_b B bT2.2.2.1
            have go : J 17 SH0 [.ref 64, .int (nI (a + 1)), .int 1] [] h4 := by
              refine ih (a + 1) (nextB B n S.2.1.2.1).2.1 h4 S.2.2 (by omega) ?_ bT2.2.2.1 hR1 ?_ t4.2.1 fq4 a4 e4 oS
              · rcases hfu with z | z
                · exact absurd q (nS z)
                · omega
              · rcases hfu with z | z
                · exact absurd q (nS z)
                · exact Or.inr (by omega)
            simp only [u_X6_store_0, u_X6_store_17, u_X6_store_37, u_X6_store_60, u_X6_store_73, u_X6_store_74, u_X6_store_78, j_X6_store_17, j_X6_store_37, j_X6_store_60, j_X6_store_73, j_X6_store_74, j_X6_store_78, ev_aload_n0, ev_getfR, ev_callV1, ev_iconst, ev_putfI, ev_istore_n1, ev_istore_n2, ev_nop, ev_iload_n2, ev_if_eq, ev_callV0, ev_if_ne, ev_goto, ev_iinc1, ev_getfI, ev_bipush, ev_ic_ne, ev_iload_n1, ev_iret, ro_i, ro_z, ev_sipush, ev_pop_int, ev_pop_ref, ev_isub, ↓e_X6_again, ↓e_X6_keep, ↓e_X6_next, ↓e_X6_no, ↓e_X6_statement, vq3_0, vq3_1, vq3_2, cq_0, cq_1, cq_2, capO_z, kb_6, kb_7, kb_8, kb_9, kb_10, kb_12, kb_16, kb_20, kb_21, kb_30, kb_32, kb_40, kb_48, kb_50, kb_57, kb_59, kb_60, kb_63, kb_70, kb_78, kb_81, kb_82, kb_84, kb_97, kb_99, kb_100, kb_101, kb_119, kb_120, kb_122, ki_m1, ki_0, ki_1, ki_2, ki_3, ki_4, ki_5, ki_6, ki_7, ki_8, ki_9, ki_10, ki_11, ki_12, ki_13, ki_14, ki_15, ki_16, ki_17, ki_18, ki_19, ki_20, ki_21, ki_22, ki_23, ki_24, ki_25, ki_26, ki_27, ki_28, ki_29, ki_30, ki_31, ki_32, ki_33, ki_34, ki_35, ki_36, ki_37, ki_38, ki_39, ki_40, ki_41, ki_42, ki_43, ki_44, ki_45, ki_46, ki_47, ki_48, ki_49, ki_50, ki_51, ki_52, ki_53, ki_54, ki_55, ki_56, ki_57, ki_58, ki_59, ki_60, ki_61, ki_62, ki_63, ks_m2000, ks_m1006, ks_m1005, ks_m1004, ks_m1003, ks_m1002, ks_m1000, ks_200, ks_250, ks_255, ks_256, ks_320, ks_660, ks_999, ks_1000, ks_9999, ks_12345, ne_2, ne_10, t_0, t_40, t_41, t_42, t_43, t_44, t_45, t_46, t_47, t_64, t_65, t_66, t_67, t_68, t_69, t_70, t_71, t_72, t_73, t_74, t_75, t_76, t_77, t_78, t_79, t_80, t_81, t_82, r_0_0, r_0_1, r_0_2, r_0_4, r_0_5, r_0_6, r_0_7, r_40_0, r_40_5, r_44_0, r_44_1, r_64_0, r_64_1, r_64_3, r_64_4, r_64_5, r_64_6, r_64_7, r_64_8, r_64_9, r_64_12, r_64_17, r_64_18, r_64_19, r_64_20, r_64_22, r_64_23, r_64_24, r_64_25, t_1, t_14, t_27, t_2, t_15, t_28, Nat.reduceEqDiff, ne_eq, not_false_eq_true, false_implies, true_implies, implies_true, Nat.reduceAdd, Nat.reduceLeDiff, Nat.reduceLT, Nat.reduceMul, or_true, true_or, if_true, if_false, not_true_eq_false, and_self, bF, Nat.reduceBEq, Bool.false_and, Bool.and_false, Bool.or_self, Bool.or_false, Bool.false_or, Bool.false_eq_true, Int.reduceAdd, Bool.and_self, Bool.true_and, Bool.and_true, beq_self_eq_true, not_not_, i10_, i01_, List.length_nil, List.length_cons, true_and, and_true, false_and, and_false, kl_i, kl_a, kl_n, kl_l, tl_s, tl_n, rv_S, pd_0, pd_e, pd_r, pd_i, pd_l, t4.2.2.1, tk_e, tk_s, eq_false q2, eq_true q3]
            exact go
          · rw [if_neg q3] at hR1
            simp only [u_X6_store_0, u_X6_store_17, u_X6_store_37, u_X6_store_60, u_X6_store_73, u_X6_store_74, u_X6_store_78, j_X6_store_17, j_X6_store_37, j_X6_store_60, j_X6_store_73, j_X6_store_74, j_X6_store_78, ev_aload_n0, ev_getfR, ev_callV1, ev_iconst, ev_putfI, ev_istore_n1, ev_istore_n2, ev_nop, ev_iload_n2, ev_if_eq, ev_callV0, ev_if_ne, ev_goto, ev_iinc1, ev_getfI, ev_bipush, ev_ic_ne, ev_iload_n1, ev_iret, ro_i, ro_z, ev_sipush, ev_pop_int, ev_pop_ref, ev_isub, ↓e_X6_again, ↓e_X6_keep, ↓e_X6_next, ↓e_X6_no, ↓e_X6_statement, vq3_0, vq3_1, vq3_2, cq_0, cq_1, cq_2, capO_z, kb_6, kb_7, kb_8, kb_9, kb_10, kb_12, kb_16, kb_20, kb_21, kb_30, kb_32, kb_40, kb_48, kb_50, kb_57, kb_59, kb_60, kb_63, kb_70, kb_78, kb_81, kb_82, kb_84, kb_97, kb_99, kb_100, kb_101, kb_119, kb_120, kb_122, ki_m1, ki_0, ki_1, ki_2, ki_3, ki_4, ki_5, ki_6, ki_7, ki_8, ki_9, ki_10, ki_11, ki_12, ki_13, ki_14, ki_15, ki_16, ki_17, ki_18, ki_19, ki_20, ki_21, ki_22, ki_23, ki_24, ki_25, ki_26, ki_27, ki_28, ki_29, ki_30, ki_31, ki_32, ki_33, ki_34, ki_35, ki_36, ki_37, ki_38, ki_39, ki_40, ki_41, ki_42, ki_43, ki_44, ki_45, ki_46, ki_47, ki_48, ki_49, ki_50, ki_51, ki_52, ki_53, ki_54, ki_55, ki_56, ki_57, ki_58, ki_59, ki_60, ki_61, ki_62, ki_63, ks_m2000, ks_m1006, ks_m1005, ks_m1004, ks_m1003, ks_m1002, ks_m1000, ks_200, ks_250, ks_255, ks_256, ks_320, ks_660, ks_999, ks_1000, ks_9999, ks_12345, ne_2, ne_10, t_0, t_40, t_41, t_42, t_43, t_44, t_45, t_46, t_47, t_64, t_65, t_66, t_67, t_68, t_69, t_70, t_71, t_72, t_73, t_74, t_75, t_76, t_77, t_78, t_79, t_80, t_81, t_82, r_0_0, r_0_1, r_0_2, r_0_4, r_0_5, r_0_6, r_0_7, r_40_0, r_40_5, r_44_0, r_44_1, r_64_0, r_64_1, r_64_3, r_64_4, r_64_5, r_64_6, r_64_7, r_64_8, r_64_9, r_64_12, r_64_17, r_64_18, r_64_19, r_64_20, r_64_22, r_64_23, r_64_24, r_64_25, t_1, t_14, t_27, t_2, t_15, t_28, Nat.reduceEqDiff, ne_eq, not_false_eq_true, false_implies, true_implies, implies_true, Nat.reduceAdd, Nat.reduceLeDiff, Nat.reduceLT, Nat.reduceMul, or_true, true_or, if_true, if_false, not_true_eq_false, and_self, bF, Nat.reduceBEq, Bool.false_and, Bool.and_false, Bool.or_self, Bool.or_false, Bool.false_or, Bool.false_eq_true, Int.reduceAdd, Bool.and_self, Bool.true_and, Bool.and_true, beq_self_eq_true, not_not_, i10_, i01_, List.length_nil, List.length_cons, true_and, and_true, false_and, and_false, kl_i, kl_a, kl_n, kl_l, tl_s, tl_n, rv_S, pd_0, pd_e, pd_r, pd_i, pd_l, t4.2.2.1, tk_e, tk_s, eq_false q2, eq_false q3]
            exact fail h4 (a + 1) (by rw [← hR1]) (by rw [← hR1]; exact t4.1) fq4 a4
      · rw [if_pos q] at hR1
        simp only [u_X6_store_0, u_X6_store_17, u_X6_store_37, u_X6_store_60, u_X6_store_73, u_X6_store_74, u_X6_store_78, j_X6_store_17, j_X6_store_37, j_X6_store_60, j_X6_store_73, j_X6_store_74, j_X6_store_78, ev_aload_n0, ev_getfR, ev_callV1, ev_iconst, ev_putfI, ev_istore_n1, ev_istore_n2, ev_nop, ev_iload_n2, ev_if_eq, ev_callV0, ev_if_ne, ev_goto, ev_iinc1, ev_getfI, ev_bipush, ev_ic_ne, ev_iload_n1, ev_iret, ro_i, ro_z, ev_sipush, ev_pop_int, ev_pop_ref, ev_isub, ↓e_X6_again, ↓e_X6_keep, ↓e_X6_next, ↓e_X6_no, ↓e_X6_statement, vq3_0, vq3_1, vq3_2, cq_0, cq_1, cq_2, capO_z, kb_6, kb_7, kb_8, kb_9, kb_10, kb_12, kb_16, kb_20, kb_21, kb_30, kb_32, kb_40, kb_48, kb_50, kb_57, kb_59, kb_60, kb_63, kb_70, kb_78, kb_81, kb_82, kb_84, kb_97, kb_99, kb_100, kb_101, kb_119, kb_120, kb_122, ki_m1, ki_0, ki_1, ki_2, ki_3, ki_4, ki_5, ki_6, ki_7, ki_8, ki_9, ki_10, ki_11, ki_12, ki_13, ki_14, ki_15, ki_16, ki_17, ki_18, ki_19, ki_20, ki_21, ki_22, ki_23, ki_24, ki_25, ki_26, ki_27, ki_28, ki_29, ki_30, ki_31, ki_32, ki_33, ki_34, ki_35, ki_36, ki_37, ki_38, ki_39, ki_40, ki_41, ki_42, ki_43, ki_44, ki_45, ki_46, ki_47, ki_48, ki_49, ki_50, ki_51, ki_52, ki_53, ki_54, ki_55, ki_56, ki_57, ki_58, ki_59, ki_60, ki_61, ki_62, ki_63, ks_m2000, ks_m1006, ks_m1005, ks_m1004, ks_m1003, ks_m1002, ks_m1000, ks_200, ks_250, ks_255, ks_256, ks_320, ks_660, ks_999, ks_1000, ks_9999, ks_12345, ne_2, ne_10, t_0, t_40, t_41, t_42, t_43, t_44, t_45, t_46, t_47, t_64, t_65, t_66, t_67, t_68, t_69, t_70, t_71, t_72, t_73, t_74, t_75, t_76, t_77, t_78, t_79, t_80, t_81, t_82, r_0_0, r_0_1, r_0_2, r_0_4, r_0_5, r_0_6, r_0_7, r_40_0, r_40_5, r_44_0, r_44_1, r_64_0, r_64_1, r_64_3, r_64_4, r_64_5, r_64_6, r_64_7, r_64_8, r_64_9, r_64_12, r_64_17, r_64_18, r_64_19, r_64_20, r_64_22, r_64_23, r_64_24, r_64_25, t_1, t_14, t_27, t_2, t_15, t_28, Nat.reduceEqDiff, ne_eq, not_false_eq_true, false_implies, true_implies, implies_true, Nat.reduceAdd, Nat.reduceLeDiff, Nat.reduceLT, Nat.reduceMul, or_true, true_or, if_true, if_false, not_true_eq_false, and_self, bF, Nat.reduceBEq, Bool.false_and, Bool.and_false, Bool.or_self, Bool.or_false, Bool.false_or, Bool.false_eq_true, Int.reduceAdd, Bool.and_self, Bool.true_and, Bool.and_true, beq_self_eq_true, not_not_, i10_, i01_, List.length_nil, List.length_cons, true_and, and_true, false_and, and_false, kl_i, kl_a, kl_n, kl_l, tl_s, tl_n, rv_S, pd_0, pd_e, pd_r, pd_i, pd_l, b2i_f q, zero_z]
        exact fail h3 a (by rw [← hR1]) (by rw [← hR1]; exact t3.1) fq a3
  refine hJ 0 _ _ _ _ ?_
  simp only [z_X6_store_0, u_X6_store_0, u_X6_store_17, u_X6_store_37, u_X6_store_60, u_X6_store_73, u_X6_store_74, u_X6_store_78, j_X6_store_17, j_X6_store_37, j_X6_store_60, j_X6_store_73, j_X6_store_74, j_X6_store_78, ev_aload_n0, ev_getfR, ev_callV1, ev_iconst, ev_putfI, ev_istore_n1, ev_istore_n2, ev_nop, ev_iload_n2, ev_if_eq, ev_callV0, ev_if_ne, ev_goto, ev_iinc1, ev_getfI, ev_bipush, ev_ic_ne, ev_iload_n1, ev_iret, ro_i, ro_z, ev_sipush, ev_pop_int, ev_pop_ref, ev_isub, ↓e_X6_again, ↓e_X6_keep, ↓e_X6_next, ↓e_X6_no, ↓e_X6_statement, vq3_0, vq3_1, vq3_2, cq_0, cq_1, cq_2, capO_z, kb_6, kb_7, kb_8, kb_9, kb_10, kb_12, kb_16, kb_20, kb_21, kb_30, kb_32, kb_40, kb_48, kb_50, kb_57, kb_59, kb_60, kb_63, kb_70, kb_78, kb_81, kb_82, kb_84, kb_97, kb_99, kb_100, kb_101, kb_119, kb_120, kb_122, ki_m1, ki_0, ki_1, ki_2, ki_3, ki_4, ki_5, ki_6, ki_7, ki_8, ki_9, ki_10, ki_11, ki_12, ki_13, ki_14, ki_15, ki_16, ki_17, ki_18, ki_19, ki_20, ki_21, ki_22, ki_23, ki_24, ki_25, ki_26, ki_27, ki_28, ki_29, ki_30, ki_31, ki_32, ki_33, ki_34, ki_35, ki_36, ki_37, ki_38, ki_39, ki_40, ki_41, ki_42, ki_43, ki_44, ki_45, ki_46, ki_47, ki_48, ki_49, ki_50, ki_51, ki_52, ki_53, ki_54, ki_55, ki_56, ki_57, ki_58, ki_59, ki_60, ki_61, ki_62, ki_63, ks_m2000, ks_m1006, ks_m1005, ks_m1004, ks_m1003, ks_m1002, ks_m1000, ks_200, ks_250, ks_255, ks_256, ks_320, ks_660, ks_999, ks_1000, ks_9999, ks_12345, ne_2, ne_10, t_0, t_40, t_41, t_42, t_43, t_44, t_45, t_46, t_47, t_64, t_65, t_66, t_67, t_68, t_69, t_70, t_71, t_72, t_73, t_74, t_75, t_76, t_77, t_78, t_79, t_80, t_81, t_82, r_0_0, r_0_1, r_0_2, r_0_4, r_0_5, r_0_6, r_0_7, r_40_0, r_40_5, r_44_0, r_44_1, r_64_0, r_64_1, r_64_3, r_64_4, r_64_5, r_64_6, r_64_7, r_64_8, r_64_9, r_64_12, r_64_17, r_64_18, r_64_19, r_64_20, r_64_22, r_64_23, r_64_24, r_64_25, t_1, t_14, t_27, t_2, t_15, t_28, Nat.reduceEqDiff, ne_eq, not_false_eq_true, false_implies, true_implies, implies_true, Nat.reduceAdd, Nat.reduceLeDiff, Nat.reduceLT, Nat.reduceMul, or_true, true_or, if_true, if_false, not_true_eq_false, and_self, bF, Nat.reduceBEq, Bool.false_and, Bool.and_false, Bool.or_self, Bool.or_false, Bool.false_or, Bool.false_eq_true, Int.reduceAdd, Bool.and_self, Bool.true_and, Bool.and_true, beq_self_eq_true, not_not_, i10_, i01_, List.length_nil, List.length_cons, true_and, and_true, false_and, and_false, kl_i, kl_a, kl_n, kl_l, tl_s, tl_n, rv_S, pd_0, pd_e, pd_r, pd_i, pd_l]
  refine ⟨80, rfl, isA80, by rw [hE]; exact ho, fun h1 k1 k2 k3 => ?_⟩
  have bT := nextB_b B (Nat.zero_le n)
  refine key 250 0 0 _ (vE G) (by omega) (by omega) (Nat.zero_le n) hR ?_ (by rw [gM_t, if_pos rfl]; rfl) (frQ_p (frQ_80 k2 k3) (Or.inr (Or.inr (by omega)))) ?_ ?_ ho
  · by_cases z : (nextB B n 0).2.2 = 4
    · exact Or.inl z
    · have := bT.2.2.2 z
      exact Or.inr (by omega)
  · rw [ea_fr (fun k => gI_no (by omega)), k1]; exact hE
  · rw [em_fr (fun c k hc => gI_no (by unfold isM at hc; omega)), em_fr (fun c k hc => k2 c k (by unfold isM at hc; omega))]; exact hE
