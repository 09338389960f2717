variable {nn : Nat}
/-! ===== THE TAPE: statements read ===== -/
/-- the numbers of a statement so far -/
def okN (E : ES) (d i : Nat) (N : Nat → Int32) : Prop := ∀ k, k < i → ∃ v : Nat, v < 1000 ∧ N k = nI v ∧ nI v ≤ mostN E (nI d) (nI k)
theorem wantN_b (d : Nat) (hd : d < 7) : wantN (nI d) ≤ 4 := by
  rcases (show d = 0 ∨ d = 1 ∨ d = 2 ∨ d = 3 ∨ d = 4 ∨ d = 5 ∨ d = 6 by omega) with rfl | rfl | rfl | rfl | rfl | rfl | rfl <;> decide
theorem frP_tr2 {h h' h'' : AH} (p1 : frN h h') (p2 : frP h' h'') : frP h h'' := frP_tr (frN_P p1) p2
theorem readN_k (B : Nat → Int32) (n : Nat) (E : ES) (w : Int32) : ∀ r i (T : Nat × Nat × Int32) (N N' : Nat → Int32), (∀ k, k < i → N k = N' k) → (readN B n E w r i T N).1 = (readN B n E w r i T N').1 ∧ (readN B n E w r i T N).2.1 = (readN B n E w r i T N').2.1 ∧ ((readN B n E w r i T N).1 = true → ∀ k, k < i + r → (readN B n E w r i T N).2.2 k = (readN B n E w r i T N').2.2 k)
  | 0, i, T, N, N', h => ⟨rfl, rfl, fun _ k hk => h k hk⟩
  | r + 1, i, T, N, N', h => by
    rw [readN_s, readN_s]
    by_cases q : numB B (nextB B n T.2.1) (mostN E w (nI i))
    · rw [if_pos q, if_pos q]
      obtain ⟨a1, a2, a3⟩ := readN_k B n E w r (i + 1) (nextB B n T.2.1) (on1 N i (valB B (nextB B n T.2.1).1 ((nextB B n T.2.1).2.1 - (nextB B n T.2.1).1))) (on1 N' i (valB B (nextB B n T.2.1).1 ((nextB B n T.2.1).2.1 - (nextB B n T.2.1).1))) (fun k hk => by
        unfold on1
        by_cases z : k = i
        · rw [if_pos z, if_pos z]
        · rw [if_neg z, if_neg z]; exact h k (by omega))
      exact ⟨a1, a2, fun z k hk => a3 z k (by omega)⟩
    · rw [if_neg q, if_neg q]
      exact ⟨rfl, rfl, fun z => absurd (show false = true from z) (by decide)⟩
theorem b2i_no {p : Prop} [Decidable p] (h : ¬ p) : b2i p = 0 := if_neg h
theorem b2i_yes {p : Prop} [Decidable p] (h : p) : b2i p = 1 := if_pos h
theorem gI_on1 (h : AH) (c k : Nat) (v : Int32) : gI (pI h c k v) c = on1 (gI h c) k v := funext fun j => by
  unfold on1
  rw [gI_pI]
  by_cases z : j = k
  · rw [if_pos ⟨rfl, z⟩, if_pos z]
  · rw [if_neg (fun y => z y.2), if_neg z]
theorem vp4 {i : Nat} (hi : i < 4) : vp_in (nI i) 4 = True := vpN hi (by omega)
def P_X4_readStatement : Sp0T := fun as h K => match as with
  | [.ref c, .ref b] => c = 40 ∧ b = 14 ∧ okE (est h 14) ∧ ∃ (n : Nat) (T : Nat × Nat × Int32), n ≤ 250 ∧ goodT (gI h 41) n T ∧ gI h 40 1 = nI n ∧ tokAt h T ∧ ∀ h', tokAt h' (stmtB (gI h 41) n (est h 14) T).2.1 → est h' 14 = (stmtB (gI h 41) n (est h 14) T).2.2 → frP h h' → K (some (.int (b2i ((stmtB (gI h 41) n (est h 14) T).1 = true)))) h'
  | _ => False
def S_X4_readStatement : SpT := lift P_X4_readStatement
def L_X4_readStatement_77 : List Item := (77, .aload_n 0, [], nS) :: (78, .iload_n 2, [], nS) :: (79, .aload_n 1, [], nS) :: (80, .invokevirtual 63, [2, 4, 0, 0], S_X4_carryOut) :: (83, .iconst 1, [], nS) :: (84, .ireturn, [], nS) :: []
def L_X4_readStatement_60 : List Item := (60, .aload_n 0, [], nS) :: (61, .getfield 15, [4, 5, 1], nS) :: (64, .iload 4, [], nS) :: (66, .aload_n 0, [], nS) :: (67, .invokevirtual 60, [0, 4, 0, 0], S_X4_value) :: (70, .iastore, [], nS) :: (71, .iinc 4 1, [], nS) :: (74, .goto (-40), [34], nS) :: L_X4_readStatement_77
def L_X4_readStatement_34 : List Item := (34, .iload 4, [], nS) :: (36, .iload_n 3, [], nS) :: (37, .if_icmp .ge 40, [77], nS) :: (40, .aload_n 0, [], nS) :: (41, .invokevirtual 25, [0, 4, 0, 0], S_X4_nextToken) :: (44, .aload_n 0, [], nS) :: (45, .iload_n 2, [], nS) :: (46, .iload 4, [], nS) :: (48, .aload_n 1, [], nS) :: (49, .invokestatic 53, [0, 3, 0, 0], S_X4_greatest) :: (52, .invokevirtual 57, [1, 4, 0, 0], S_X4_isNumberUpTo) :: (55, .ifCond .ne 5, [60], nS) :: (58, .iconst 0, [], nS) :: (59, .ireturn, [], nS) :: L_X4_readStatement_60
def L_X4_readStatement_26 : List Item := (26, .iload_n 2, [], nS) :: (27, .invokestatic 49, [0, 1, 0, 0], S_X4_howManyNumbers) :: (30, .istore_n 3, [], nS) :: (31, .iconst 0, [], nS) :: (32, .istore 4, [], nS) :: (34, .nop, [], nS) :: L_X4_readStatement_34
def L_X4_readStatement_24 : List Item := (24, .iconst 0, [], nS) :: (25, .ireturn, [], nS) :: L_X4_readStatement_26
def L_X4_readStatement_0 : List Item := (0, .aload_n 0, [], nS) :: (1, .invokevirtual 35, [0, 4, 0, 0], S_X4_knownWord) :: (4, .istore_n 2, [], nS) :: (5, .iload_n 2, [], nS) :: (6, .iconst (-1), [], nS) :: (7, .if_icmp .eq 17, [24], nS) :: (10, .iload_n 2, [], nS) :: (11, .invokestatic 39, [0, 1, 0, 0], S_X4_isBirth) :: (14, .ifCond .eq 12, [26], nS) :: (17, .aload_n 1, [], nS) :: (18, .invokevirtual 43, [0, 0, 0, 0], S_X0_hasRoom) :: (21, .ifCond .ne 5, [26], nS) :: L_X4_readStatement_24
def L_X4_readStatement : List Item := L_X4_readStatement_0
theorem ok_X4_readStatement : okB cX4_readStatement L_X4_readStatement = true := by decide +kernel
theorem lk_X4_readStatement (l : Launch) : LKs l RX4 8 false L_X4_readStatement := ⟨trivial, ⟨_, _, _, _, _, _, _, _, _, rfl, c_X4_knownWord l, Or.inl ⟨by decide, yv_X4_knownWord⟩, by decide, gT_of (List.mem_of_getElem? (i := 331) (by decide +kernel)) rfl⟩, trivial, trivial, trivial, trivial, trivial, Or.inl ⟨_, _, _, _, _, _, _, _, rfl, c_X4_isBirth l, yv_X4_isBirth, by decide, gT_of (List.mem_of_getElem? (i := 397) (by decide +kernel)) rfl⟩, trivial, trivial, ⟨_, _, _, _, _, _, _, _, _, rfl, c_X0_hasRoom l, Or.inl ⟨by decide, yv_X0_hasRoom⟩, by decide, gT_of (List.mem_of_getElem? (i := 400) (by decide +kernel)) rfl⟩, trivial, trivial, trivial, trivial, Or.inl ⟨_, _, _, _, _, _, _, _, rfl, c_X4_howManyNumbers l, yv_X4_howManyNumbers, by decide, gT_of (List.mem_of_getElem? (i := 404) (by decide +kernel)) rfl⟩, trivial, trivial, trivial, trivial, trivial, trivial, trivial, trivial, ⟨_, _, _, _, _, _, _, _, _, rfl, c_X4_nextToken l, Or.inl ⟨by decide, yv_X4_nextToken⟩, by decide, gT_of (List.mem_of_getElem? (i := 320) (by decide +kernel)) rfl⟩, trivial, trivial, trivial, trivial, Or.inl ⟨_, _, _, _, _, _, _, _, rfl, c_X4_greatest l, yv_X4_greatest, by decide, gT_of (List.mem_of_getElem? (i := 407) (by decide +kernel)) rfl⟩, ⟨_, _, _, _, _, _, _, _, _, rfl, c_X4_isNumberUpTo l, Or.inl ⟨by decide, yv_X4_isNumberUpTo⟩, by decide, gT_of (List.mem_of_getElem? (i := 413) (by decide +kernel)) rfl⟩, trivial, trivial, trivial, trivial, ⟨_, _, _, rfl, ⟨(RX4, TX4, 6), rfl, by decide, gT_of (List.mem_of_getElem? (i := 143) (by decide +kernel)) rfl⟩, rfl⟩, trivial, trivial, ⟨_, _, _, _, _, _, _, _, _, rfl, c_X4_value l, Or.inl ⟨by decide, yv_X4_value⟩, by decide, gT_of (List.mem_of_getElem? (i := 417) (by decide +kernel)) rfl⟩, trivial, trivial, trivial, trivial, trivial, trivial, ⟨_, _, _, _, _, _, _, _, _, rfl, c_X4_carryOut l, Or.inl ⟨by decide, yv_X4_carryOut⟩, by decide, gT_of (List.mem_of_getElem? (i := 421) (by decide +kernel)) rfl⟩, trivial, trivial, trivial⟩
theorem b_X4_readStatement_0 : atL L_X4_readStatement 0 = L_X4_readStatement_0 := rfl
theorem b_X4_readStatement_24 : atL L_X4_readStatement 24 = L_X4_readStatement_24 := rfl
theorem b_X4_readStatement_26 : atL L_X4_readStatement 26 = L_X4_readStatement_26 := rfl
theorem b_X4_readStatement_34 : atL L_X4_readStatement 34 = L_X4_readStatement_34 := rfl
theorem b_X4_readStatement_60 : atL L_X4_readStatement 60 = L_X4_readStatement_60 := rfl
theorem b_X4_readStatement_77 : atL L_X4_readStatement 77 = L_X4_readStatement_77 := rfl
theorem a_X4_readStatement_24 : afw L_X4_readStatement [34] 24 = L_X4_readStatement_24 := rfl
theorem a_X4_readStatement_26 : afw L_X4_readStatement [34] 26 = L_X4_readStatement_26 := rfl
theorem a_X4_readStatement_60 : afw L_X4_readStatement [34] 60 = L_X4_readStatement_60 := rfl
theorem a_X4_readStatement_77 : afw L_X4_readStatement [34] 77 = L_X4_readStatement_77 := rfl
theorem a_X4_readStatement_34 : afw L_X4_readStatement [34] 34 = [] := rfl
theorem yv_X4_readStatement : YV yX4_readStatement cX4_readStatement 5 (some .boolean) 1 4 := ⟨⟨gT_of (List.mem_of_getElem? (i := 330) (by decide +kernel)) rfl, gT_of (List.mem_of_getElem? (i := 29) (by decide +kernel)) rfl, ⟨by decide, by decide⟩, by decide +kernel, by decide⟩, gT_of (List.mem_of_getElem? (i := 329) (by decide +kernel)) rfl, gT_of (List.mem_of_getElem? (i := 5) (by decide +kernel)) rfl, rfl⟩
theorem u_X4_readStatement_0 : L_X4_readStatement_0 = (0, .aload_n 0, [], nS) :: (1, .invokevirtual 35, [0, 4, 0, 0], S_X4_knownWord) :: (4, .istore_n 2, [], nS) :: (5, .iload_n 2, [], nS) :: (6, .iconst (-1), [], nS) :: (7, .if_icmp .eq 17, [24], nS) :: (10, .iload_n 2, [], nS) :: (11, .invokestatic 39, [0, 1, 0, 0], S_X4_isBirth) :: (14, .ifCond .eq 12, [26], nS) :: (17, .aload_n 1, [], nS) :: (18, .invokevirtual 43, [0, 0, 0, 0], S_X0_hasRoom) :: (21, .ifCond .ne 5, [26], nS) :: L_X4_readStatement_24 := nr rfl
theorem u_X4_readStatement_24 : L_X4_readStatement_24 = (24, .iconst 0, [], nS) :: (25, .ireturn, [], nS) :: L_X4_readStatement_26 := nr rfl
theorem u_X4_readStatement_26 : L_X4_readStatement_26 = (26, .iload_n 2, [], nS) :: (27, .invokestatic 49, [0, 1, 0, 0], S_X4_howManyNumbers) :: (30, .istore_n 3, [], nS) :: (31, .iconst 0, [], nS) :: (32, .istore 4, [], nS) :: (34, .nop, [], nS) :: L_X4_readStatement_34 := nr rfl
theorem u_X4_readStatement_34 : L_X4_readStatement_34 = (34, .iload 4, [], nS) :: (36, .iload_n 3, [], nS) :: (37, .if_icmp .ge 40, [77], nS) :: (40, .aload_n 0, [], nS) :: (41, .invokevirtual 25, [0, 4, 0, 0], S_X4_nextToken) :: (44, .aload_n 0, [], nS) :: (45, .iload_n 2, [], nS) :: (46, .iload 4, [], nS) :: (48, .aload_n 1, [], nS) :: (49, .invokestatic 53, [0, 3, 0, 0], S_X4_greatest) :: (52, .invokevirtual 57, [1, 4, 0, 0], S_X4_isNumberUpTo) :: (55, .ifCond .ne 5, [60], nS) :: (58, .iconst 0, [], nS) :: (59, .ireturn, [], nS) :: L_X4_readStatement_60 := nr rfl
theorem u_X4_readStatement_60 : L_X4_readStatement_60 = (60, .aload_n 0, [], nS) :: (61, .getfield 15, [4, 5, 1], nS) :: (64, .iload 4, [], nS) :: (66, .aload_n 0, [], nS) :: (67, .invokevirtual 60, [0, 4, 0, 0], S_X4_value) :: (70, .iastore, [], nS) :: (71, .iinc 4 1, [], nS) :: (74, .goto (-40), [34], nS) :: L_X4_readStatement_77 := nr rfl
theorem u_X4_readStatement_77 : L_X4_readStatement_77 = (77, .aload_n 0, [], nS) :: (78, .iload_n 2, [], nS) :: (79, .aload_n 1, [], nS) :: (80, .invokevirtual 63, [2, 4, 0, 0], S_X4_carryOut) :: (83, .iconst 1, [], nS) :: (84, .ireturn, [], nS) :: [] := nr rfl
theorem z_X4_readStatement_0 : atL L_X4_readStatement 0 = L_X4_readStatement_0 := nr rfl
theorem z_X4_readStatement_24 : atL L_X4_readStatement 24 = L_X4_readStatement_24 := nr rfl
theorem z_X4_readStatement_26 : atL L_X4_readStatement 26 = L_X4_readStatement_26 := nr rfl
theorem z_X4_readStatement_34 : atL L_X4_readStatement 34 = L_X4_readStatement_34 := nr rfl
theorem z_X4_readStatement_60 : atL L_X4_readStatement 60 = L_X4_readStatement_60 := nr rfl
theorem z_X4_readStatement_77 : atL L_X4_readStatement 77 = L_X4_readStatement_77 := nr rfl
theorem j_X4_readStatement_24 {G : List Item → SpS → List Value → List Value → AH → Prop} {J : Nat → SpS → List Value → List Value → AH → Prop} {S : SpS} {lv st : List Value} {h : AH} : jmp G J (afw L_X4_readStatement [34] 24) 24 S lv st h = G L_X4_readStatement_24 S lv st h := nr rfl
theorem j_X4_readStatement_26 {G : List Item → SpS → List Value → List Value → AH → Prop} {J : Nat → SpS → List Value → List Value → AH → Prop} {S : SpS} {lv st : List Value} {h : AH} : jmp G J (afw L_X4_readStatement [34] 26) 26 S lv st h = G L_X4_readStatement_26 S lv st h := nr rfl
theorem j_X4_readStatement_60 {G : List Item → SpS → List Value → List Value → AH → Prop} {J : Nat → SpS → List Value → List Value → AH → Prop} {S : SpS} {lv st : List Value} {h : AH} : jmp G J (afw L_X4_readStatement [34] 60) 60 S lv st h = G L_X4_readStatement_60 S lv st h := nr rfl
theorem j_X4_readStatement_77 {G : List Item → SpS → List Value → List Value → AH → Prop} {J : Nat → SpS → List Value → List Value → AH → Prop} {S : SpS} {lv st : List Value} {h : AH} : jmp G J (afw L_X4_readStatement [34] 77) 77 S lv st h = G L_X4_readStatement_77 S lv st h := nr rfl
theorem j_X4_readStatement_34 {G : List Item → SpS → List Value → List Value → AH → Prop} {J : Nat → SpS → List Value → List Value → AH → Prop} {S : SpS} {lv st : List Value} {h : AH} : jmp G J (afw L_X4_readStatement [34] 34) 34 S lv st h = J 34 S lv st h := nr rfl
theorem e_X4_readStatement {c : Addr} {b : Addr} {h : AH} {K2 : Option Value → SpS → AH → Prop} : S_X4_readStatement (SHn nn) [.ref c, .ref b] h K2 = (fun (K : Option Value → AH → Prop) => c = 40 ∧ b = 14 ∧ okE (est h 14) ∧ ∃ (n : Nat) (T : Nat × Nat × Int32), n ≤ 250 ∧ goodT (gI h 41) n T ∧ gI h 40 1 = nI n ∧ tokAt h T ∧ ∀ h', tokAt h' (stmtB (gI h 41) n (est h 14) T).2.1 → est h' 14 = (stmtB (gI h 41) n (est h 14) T).2.2 → frP h h' → K (some (.int (b2i ((stmtB (gI h 41) n (est h 14) T).1 = true)))) h') (fun v h' => K2 v (SHn nn) h') := (lift_e P_X4_readStatement [.ref c, .ref b] h K2).trans (nr rfl)
set_option maxRecDepth 100000 in
set_option maxHeartbeats 4000000 in
theorem c_X4_readStatement (l : Launch) : Ct l yX4_readStatement cX4_readStatement 5 (some .boolean) 8 0 0 S_X4_readStatement := by
  refine Ct0_mk L_X4_readStatement [34] (by decide +kernel) (by decide) ok_X4_readStatement (lk_X4_readStatement l) ?_
  intro nn as h K hP
  match as, hP with
  | [.ref c, .ref b], ⟨hc, hb, ho, n, T, hn, hT, g1, hA, hK⟩ =>
  refine ⟨by simp [slotsN, Value.category], fun J hJ => ?_⟩
  subst hc hb
  generalize hB : gI h 41 = B at *
  generalize hE : est h 14 = E at *
  have b250 := hT.2.1
  have c4 : gI h 14 4 = nI (cnt E) := by rw [← hE]; exact est_c (hE ▸ ho)
  have loop : ∀ (d : Nat) (R0 : Bool × (Nat × Nat × Int32) × (Nat → Int32)), d < 7 → (d < 2 → cnt E < 10) → (∀ h', tokAt h' R0.2.1 → est h' 14 = (if R0.1 = true then doE E (nI d) R0.2.2 else E) → frP h h' → K (some (.int (b2i (R0.1 = true)))) (SHn nn) h') → ∀ r i h1 T1, i + r = wantN (nI d) → okN E d i (gI h1 42) → goodT B n T1 → tokAt h1 T1 → frN h h1 → (readN B n E (nI d) r i T1 (gI h1 42)).1 = R0.1 → (readN B n E (nI d) r i T1 (gI h1 42)).2.1 = R0.2.1 → (R0.1 = true → ∀ k, k < wantN (nI d) → (readN B n E (nI d) r i T1 (gI h1 42)).2.2 k = R0.2.2 k) → J 34 (SHn nn) [.ref 40, .ref 14, .int (nI d), .int (nI (wantN (nI d))), .int (nI i)] [] h1 := by
    intro d R0 hd hd2 hK2 r
    have w4 := wantN_b d hd
    induction r with
    | zero =>
      intro i h1 T1 hi hN hT1 hA1 hf e1 e2 e3
      have eE : est h1 14 = E := (frN_E hf (by rw [hE]; exact ho.2.1)).trans hE
      obtain rfl : i = wantN (nI d) := by omega
      refine hJ 34 _ _ _ _ ?_
      simp only [z_X4_readStatement_34, u_X4_readStatement_0, u_X4_readStatement_24, u_X4_readStatement_26, u_X4_readStatement_34, u_X4_readStatement_60, u_X4_readStatement_77, j_X4_readStatement_24, j_X4_readStatement_26, j_X4_readStatement_34, j_X4_readStatement_60, j_X4_readStatement_77, ev_aload_n0, ev_callV0, ev_istore_n2, ev_iload_n2, ev_iconst, ev_ic_eq, ev_callS1, ev_if_eq, ev_aload_n1, ev_if_ne, ev_iret, ro_i, ro_z, ev_istore_n3, ev_istore4, ev_nop, ev_iload4, ev_iload_n3, ev_ic_ge, ev_callS3, ev_callV1, ev_getfR, ev_iastore, ev_iinc4, ev_goto, ev_callV2, ↓e_X0_hasRoom, ↓e_X4_carryOut, ↓e_X4_greatest, ↓e_X4_howManyNumbers, ↓e_X4_isBirth, ↓e_X4_isNumberUpTo, ↓e_X4_knownWord, ↓e_X4_nextToken, ↓e_X4_value, capO_z, kb_6, kb_11, kb_13, kb_15, kb_17, kb_18, kb_19, kb_23, kb_24, kb_25, kb_26, kb_29, kb_31, kb_35, kb_37, kb_41, kb_43, kb_44, kb_61, kb_75, kb_104, kb_7, kb_8, kb_9, kb_10, kb_12, kb_16, kb_20, kb_21, kb_30, kb_32, kb_40, kb_48, kb_50, kb_57, kb_59, kb_60, kb_63, kb_70, kb_78, kb_81, kb_82, kb_84, kb_97, kb_99, kb_100, kb_101, kb_119, kb_120, kb_122, ki_m1, ki_0, ki_1, ki_2, ki_3, ki_4, ki_5, ki_6, ki_7, ki_8, ki_9, ki_10, ki_11, ki_12, ki_13, ki_14, ki_15, ki_16, ki_17, ki_18, ki_19, ki_20, ki_21, ki_22, ki_23, ki_24, ki_25, ki_26, ki_27, ki_28, ki_29, ki_30, ki_31, ki_32, ki_33, ki_34, ki_35, ki_36, ki_37, ki_38, ki_39, ki_40, ki_41, ki_42, ki_43, ki_44, ki_45, ki_46, ki_47, ki_48, ki_49, ki_50, ki_51, ki_52, ki_53, ki_54, ki_55, ki_56, ki_57, ki_58, ki_59, ki_60, ki_61, ki_62, ki_63, ks_m2000, ks_m1006, ks_m1005, ks_m1004, ks_m1003, ks_m1002, ks_m1000, ks_200, ks_201, ks_300, ks_720, ks_9000, ks_10000, ks_250, ks_255, ks_256, ks_320, ks_660, ks_999, ks_1000, ks_9999, ks_12345, ne_2, ne_10, t_0, t_40, t_41, t_42, t_43, t_44, t_45, t_46, t_47, r_0_0, r_0_1, r_0_2, r_0_4, r_0_5, r_0_6, r_0_7, r_40_0, r_40_5, r_44_0, r_44_1, t_1, t_14, t_27, t_2, t_15, t_28, t_64, Nat.reduceEqDiff, ne_eq, not_false_eq_true, false_implies, true_implies, implies_true, Nat.reduceAdd, Nat.reduceLeDiff, Nat.reduceLT, Nat.reduceMul, or_true, true_or, if_true, if_false, not_true_eq_false, and_self, bF, Nat.reduceBEq, Bool.false_and, Bool.and_false, Bool.or_self, Bool.or_false, Bool.false_or, Bool.false_eq_true, Int.reduceAdd, Bool.and_self, Bool.true_and, Bool.and_true, beq_self_eq_true, not_not_, i10_, i01_, List.length_nil, List.length_cons, true_and, and_true, false_and, and_false, kl_i, kl_a, kl_n, kl_l, tl_s, tl_n, rv_S, pd_0, pd_e, pd_r, pd_i, pd_l, lpT (show wantN (nI d) < 2147483648 by omega), isE14t, eE, eq_true ho]
      refine ⟨d, hd, rfl, ⟨hd2, hN⟩, fun h' q1 q2 => ?_⟩
      have f1 : R0.1 = true := e1.symm
      have hT' : tokAt h' R0.2.1 := by
        rw [← e2]
        exact ⟨(q2.1 40 2 (by omega)).trans hA1.1, (q2.1 40 3 (by omega)).trans hA1.2.1, (q2.1 40 4 (by omega)).trans hA1.2.2⟩
      have z := hK2 h' hT' (by rw [q1, if_pos f1]; exact doE_x E hd (e3 f1)) (frP_tr2 hf (frP_E q2))
      rw [b2i_yes f1] at z
      exact z
    | succ r ih =>
      intro i h1 T1 hi hN hT1 hA1 hf e1 e2 e3
      have eE : est h1 14 = E := (frN_E hf (by rw [hE]; exact ho.2.1)).trans hE
      refine hJ 34 _ _ _ _ ?_
      simp only [z_X4_readStatement_34, u_X4_readStatement_0, u_X4_readStatement_24, u_X4_readStatement_26, u_X4_readStatement_34, u_X4_readStatement_60, u_X4_readStatement_77, j_X4_readStatement_24, j_X4_readStatement_26, j_X4_readStatement_34, j_X4_readStatement_60, j_X4_readStatement_77, ev_aload_n0, ev_callV0, ev_istore_n2, ev_iload_n2, ev_iconst, ev_ic_eq, ev_callS1, ev_if_eq, ev_aload_n1, ev_if_ne, ev_iret, ro_i, ro_z, ev_istore_n3, ev_istore4, ev_nop, ev_iload4, ev_iload_n3, ev_ic_ge, ev_callS3, ev_callV1, ev_getfR, ev_iastore, ev_iinc4, ev_goto, ev_callV2, ↓e_X0_hasRoom, ↓e_X4_carryOut, ↓e_X4_greatest, ↓e_X4_howManyNumbers, ↓e_X4_isBirth, ↓e_X4_isNumberUpTo, ↓e_X4_knownWord, ↓e_X4_nextToken, ↓e_X4_value, capO_z, kb_6, kb_11, kb_13, kb_15, kb_17, kb_18, kb_19, kb_23, kb_24, kb_25, kb_26, kb_29, kb_31, kb_35, kb_37, kb_41, kb_43, kb_44, kb_61, kb_75, kb_104, kb_7, kb_8, kb_9, kb_10, kb_12, kb_16, kb_20, kb_21, kb_30, kb_32, kb_40, kb_48, kb_50, kb_57, kb_59, kb_60, kb_63, kb_70, kb_78, kb_81, kb_82, kb_84, kb_97, kb_99, kb_100, kb_101, kb_119, kb_120, kb_122, ki_m1, ki_0, ki_1, ki_2, ki_3, ki_4, ki_5, ki_6, ki_7, ki_8, ki_9, ki_10, ki_11, ki_12, ki_13, ki_14, ki_15, ki_16, ki_17, ki_18, ki_19, ki_20, ki_21, ki_22, ki_23, ki_24, ki_25, ki_26, ki_27, ki_28, ki_29, ki_30, ki_31, ki_32, ki_33, ki_34, ki_35, ki_36, ki_37, ki_38, ki_39, ki_40, ki_41, ki_42, ki_43, ki_44, ki_45, ki_46, ki_47, ki_48, ki_49, ki_50, ki_51, ki_52, ki_53, ki_54, ki_55, ki_56, ki_57, ki_58, ki_59, ki_60, ki_61, ki_62, ki_63, ks_m2000, ks_m1006, ks_m1005, ks_m1004, ks_m1003, ks_m1002, ks_m1000, ks_200, ks_201, ks_300, ks_720, ks_9000, ks_10000, ks_250, ks_255, ks_256, ks_320, ks_660, ks_999, ks_1000, ks_9999, ks_12345, ne_2, ne_10, t_0, t_40, t_41, t_42, t_43, t_44, t_45, t_46, t_47, r_0_0, r_0_1, r_0_2, r_0_4, r_0_5, r_0_6, r_0_7, r_40_0, r_40_5, r_44_0, r_44_1, t_1, t_14, t_27, t_2, t_15, t_28, t_64, Nat.reduceEqDiff, ne_eq, not_false_eq_true, false_implies, true_implies, implies_true, Nat.reduceAdd, Nat.reduceLeDiff, Nat.reduceLT, Nat.reduceMul, or_true, true_or, if_true, if_false, not_true_eq_false, and_self, bF, Nat.reduceBEq, Bool.false_and, Bool.and_false, Bool.or_self, Bool.or_false, Bool.false_or, Bool.false_eq_true, Int.reduceAdd, Bool.and_self, Bool.true_and, Bool.and_true, beq_self_eq_true, not_not_, i10_, i01_, List.length_nil, List.length_cons, true_and, and_true, false_and, and_false, kl_i, kl_a, kl_n, kl_l, tl_s, tl_n, rv_S, pd_0, pd_e, pd_r, pd_i, pd_l, lpF (show i < wantN (nI d) by omega) (show wantN (nI d) < 2147483648 by omega), vp4 (show i < 4 by omega), nI_clamp (show i < 2 ^ 31 by omega), nI_1]
      refine ⟨n, T1.2.1, hn, hT1.2.1, (frN_S hf).trans g1, hA1.2.1, ?_⟩
      rw [frN_B hf, hB]
      intro h2 hA2 hf2
      have hT2 := nextB_g B hT1.2.1
      have fN : frN h h2 := frN_tr hf (frT_N hf2)
      have eE2 : est h2 14 = E := (frN_E fN (by rw [hE]; exact ho.2.1)).trans hE
      have eB2 : gI h2 41 = B := (frN_B fN).trans hB
      have eM2 : gI h2 42 = gI h1 42 := frT_M hf2
      have l250 := hT2.2.1
      refine ⟨d, i, hd, by omega, rfl, rfl, nextB B n T1.2.1, hT2.1, by omega, hA2, ?_⟩
      rw [eE2, eB2]
      rw [readN_s] at e1 e2 e3
      refine ⟨fun q => ?_, fun q => ?_⟩
      · rw [if_pos q] at e1 e2 e3
        obtain ⟨v, v1, v2, v3⟩ := numB_v hT2 q
        refine ⟨(nextB B n T1.2.1).1, (nextB B n T1.2.1).2.1, hT2.1, by omega, hA2.1, hA2.2.1, ?_⟩
        refine ih (i + 1) _ (nextB B n T1.2.1) (by omega) ?_ hT2 ?_ (frN_n fN) ?_ ?_ ?_
        · intro k hk
          rw [gI_on1, eM2]
          unfold on1
          by_cases z : k = i
          · rw [if_pos z, z]; exact ⟨v, v1, v2, v3⟩
          · rw [if_neg z]; exact hN k (by omega)
        · refine ⟨?_, ?_, ?_⟩
          · rw [gI_pI, if_neg (by omega)]; exact hA2.1
          · rw [gI_pI, if_neg (by omega)]; exact hA2.2.1
          · rw [gI_pI, if_neg (by omega)]; exact hA2.2.2
        · rw [gI_on1, eM2]; exact e1
        · rw [gI_on1, eM2]; exact e2
        · rw [gI_on1, eM2]; exact e3
      · rw [if_neg q] at e1 e2 e3
        have f1 : R0.1 = false := e1.symm
        have z := hK2 h2 (by rw [← e2]; exact hA2) (by rw [eE2, f1]; rfl) (frN_P fN)
        rw [f1] at z
        exact z
  refine hJ 0 _ _ _ _ ?_
  simp only [z_X4_readStatement_0, u_X4_readStatement_0, u_X4_readStatement_24, u_X4_readStatement_26, u_X4_readStatement_34, u_X4_readStatement_60, u_X4_readStatement_77, j_X4_readStatement_24, j_X4_readStatement_26, j_X4_readStatement_34, j_X4_readStatement_60, j_X4_readStatement_77, ev_aload_n0, ev_callV0, ev_istore_n2, ev_iload_n2, ev_iconst, ev_ic_eq, ev_callS1, ev_if_eq, ev_aload_n1, ev_if_ne, ev_iret, ro_i, ro_z, ev_istore_n3, ev_istore4, ev_nop, ev_iload4, ev_iload_n3, ev_ic_ge, ev_callS3, ev_callV1, ev_getfR, ev_iastore, ev_iinc4, ev_goto, ev_callV2, ↓e_X0_hasRoom, ↓e_X4_carryOut, ↓e_X4_greatest, ↓e_X4_howManyNumbers, ↓e_X4_isBirth, ↓e_X4_isNumberUpTo, ↓e_X4_knownWord, ↓e_X4_nextToken, ↓e_X4_value, capO_z, kb_6, kb_11, kb_13, kb_15, kb_17, kb_18, kb_19, kb_23, kb_24, kb_25, kb_26, kb_29, kb_31, kb_35, kb_37, kb_41, kb_43, kb_44, kb_61, kb_75, kb_104, kb_7, kb_8, kb_9, kb_10, kb_12, kb_16, kb_20, kb_21, kb_30, kb_32, kb_40, kb_48, kb_50, kb_57, kb_59, kb_60, kb_63, kb_70, kb_78, kb_81, kb_82, kb_84, kb_97, kb_99, kb_100, kb_101, kb_119, kb_120, kb_122, ki_m1, ki_0, ki_1, ki_2, ki_3, ki_4, ki_5, ki_6, ki_7, ki_8, ki_9, ki_10, ki_11, ki_12, ki_13, ki_14, ki_15, ki_16, ki_17, ki_18, ki_19, ki_20, ki_21, ki_22, ki_23, ki_24, ki_25, ki_26, ki_27, ki_28, ki_29, ki_30, ki_31, ki_32, ki_33, ki_34, ki_35, ki_36, ki_37, ki_38, ki_39, ki_40, ki_41, ki_42, ki_43, ki_44, ki_45, ki_46, ki_47, ki_48, ki_49, ki_50, ki_51, ki_52, ki_53, ki_54, ki_55, ki_56, ki_57, ki_58, ki_59, ki_60, ki_61, ki_62, ki_63, ks_m2000, ks_m1006, ks_m1005, ks_m1004, ks_m1003, ks_m1002, ks_m1000, ks_200, ks_201, ks_300, ks_720, ks_9000, ks_10000, ks_250, ks_255, ks_256, ks_320, ks_660, ks_999, ks_1000, ks_9999, ks_12345, ne_2, ne_10, t_0, t_40, t_41, t_42, t_43, t_44, t_45, t_46, t_47, r_0_0, r_0_1, r_0_2, r_0_4, r_0_5, r_0_6, r_0_7, r_40_0, r_40_5, r_44_0, r_44_1, t_1, t_14, t_27, t_2, t_15, t_28, t_64, Nat.reduceEqDiff, ne_eq, not_false_eq_true, false_implies, true_implies, implies_true, Nat.reduceAdd, Nat.reduceLeDiff, Nat.reduceLT, Nat.reduceMul, or_true, true_or, if_true, if_false, not_true_eq_false, and_self, bF, Nat.reduceBEq, Bool.false_and, Bool.and_false, Bool.or_self, Bool.or_false, Bool.false_or, Bool.false_eq_true, Int.reduceAdd, Bool.and_self, Bool.true_and, Bool.and_true, beq_self_eq_true, not_not_, i10_, i01_, List.length_nil, List.length_cons, true_and, and_true, false_and, and_false, kl_i, kl_a, kl_n, kl_l, tl_s, tl_n, rv_S, pd_0, pd_e, pd_r, pd_i, pd_l]
  refine ⟨T, hT.1, by omega, hA, ?_⟩
  rw [hB]
  rcases wordB_r B T with hw | ⟨d, hd, hw⟩
  · unfold stmtB at hK
    rw [if_pos (Or.inl hw)] at hK
    rw [hw]
    simp only [u_X4_readStatement_0, u_X4_readStatement_24, u_X4_readStatement_26, u_X4_readStatement_34, u_X4_readStatement_60, u_X4_readStatement_77, j_X4_readStatement_24, j_X4_readStatement_26, j_X4_readStatement_34, j_X4_readStatement_60, j_X4_readStatement_77, ev_aload_n0, ev_callV0, ev_istore_n2, ev_iload_n2, ev_iconst, ev_ic_eq, ev_callS1, ev_if_eq, ev_aload_n1, ev_if_ne, ev_iret, ro_i, ro_z, ev_istore_n3, ev_istore4, ev_nop, ev_iload4, ev_iload_n3, ev_ic_ge, ev_callS3, ev_callV1, ev_getfR, ev_iastore, ev_iinc4, ev_goto, ev_callV2, ↓e_X0_hasRoom, ↓e_X4_carryOut, ↓e_X4_greatest, ↓e_X4_howManyNumbers, ↓e_X4_isBirth, ↓e_X4_isNumberUpTo, ↓e_X4_knownWord, ↓e_X4_nextToken, ↓e_X4_value, capO_z, kb_6, kb_11, kb_13, kb_15, kb_17, kb_18, kb_19, kb_23, kb_24, kb_25, kb_26, kb_29, kb_31, kb_35, kb_37, kb_41, kb_43, kb_44, kb_61, kb_75, kb_104, kb_7, kb_8, kb_9, kb_10, kb_12, kb_16, kb_20, kb_21, kb_30, kb_32, kb_40, kb_48, kb_50, kb_57, kb_59, kb_60, kb_63, kb_70, kb_78, kb_81, kb_82, kb_84, kb_97, kb_99, kb_100, kb_101, kb_119, kb_120, kb_122, ki_m1, ki_0, ki_1, ki_2, ki_3, ki_4, ki_5, ki_6, ki_7, ki_8, ki_9, ki_10, ki_11, ki_12, ki_13, ki_14, ki_15, ki_16, ki_17, ki_18, ki_19, ki_20, ki_21, ki_22, ki_23, ki_24, ki_25, ki_26, ki_27, ki_28, ki_29, ki_30, ki_31, ki_32, ki_33, ki_34, ki_35, ki_36, ki_37, ki_38, ki_39, ki_40, ki_41, ki_42, ki_43, ki_44, ki_45, ki_46, ki_47, ki_48, ki_49, ki_50, ki_51, ki_52, ki_53, ki_54, ki_55, ki_56, ki_57, ki_58, ki_59, ki_60, ki_61, ki_62, ki_63, ks_m2000, ks_m1006, ks_m1005, ks_m1004, ks_m1003, ks_m1002, ks_m1000, ks_200, ks_201, ks_300, ks_720, ks_9000, ks_10000, ks_250, ks_255, ks_256, ks_320, ks_660, ks_999, ks_1000, ks_9999, ks_12345, ne_2, ne_10, t_0, t_40, t_41, t_42, t_43, t_44, t_45, t_46, t_47, r_0_0, r_0_1, r_0_2, r_0_4, r_0_5, r_0_6, r_0_7, r_40_0, r_40_5, r_44_0, r_44_1, t_1, t_14, t_27, t_2, t_15, t_28, t_64, Nat.reduceEqDiff, ne_eq, not_false_eq_true, false_implies, true_implies, implies_true, Nat.reduceAdd, Nat.reduceLeDiff, Nat.reduceLT, Nat.reduceMul, or_true, true_or, if_true, if_false, not_true_eq_false, and_self, bF, Nat.reduceBEq, Bool.false_and, Bool.and_false, Bool.or_self, Bool.or_false, Bool.false_or, Bool.false_eq_true, Int.reduceAdd, Bool.and_self, Bool.true_and, Bool.and_true, beq_self_eq_true, not_not_, i10_, i01_, List.length_nil, List.length_cons, true_and, and_true, false_and, and_false, kl_i, kl_a, kl_n, kl_l, tl_s, tl_n, rv_S, pd_0, pd_e, pd_r, pd_i, pd_l, show ((-1 : Int32) = -1) = True from eq_self _]
    exact hK h hA hE (frP_rf h)
  · have hw1 : ¬ wordB B T = -1 := by
      rw [hw]; intro z; exact absurd z (show ¬ nI d = -1 from fun z => absurd (show nI d < 0 by rw [z]; decide) (nI_pos (by omega)))
    have fin : (d < 2 → cnt E < 10) → J 34 (SHn nn) [.ref 40, .ref 14, .int (nI d), .int (nI (wantN (nI d))), .int (nI 0)] [] h := by
      intro hd2
      have e : stmtB B n E T = ((readN B n E (nI d) (wantN (nI d)) 0 T (fun _ => 0)).1, (readN B n E (nI d) (wantN (nI d)) 0 T (fun _ => 0)).2.1, if (readN B n E (nI d) (wantN (nI d)) 0 T (fun _ => 0)).1 = true then doE E (nI d) (readN B n E (nI d) (wantN (nI d)) 0 T (fun _ => 0)).2.2 else E) := by
        unfold stmtB
        rw [hw, if_neg]
        rintro (z | ⟨z, z2⟩)
        · rw [hw] at hw1; exact hw1 z
        · refine z2 (hd2 ?_)
          rcases z with z | z
          · rw [show (0 : Int32) = nI 0 from rfl, nI_inj (by omega) (by omega)] at z; omega
          · rw [show (1 : Int32) = nI 1 from rfl, nI_inj (by omega) (by omega)] at z; omega
      rw [e] at hK
      obtain ⟨a1, a2, a3⟩ := readN_k B n E (nI d) (wantN (nI d)) 0 T (gI h 42) (fun _ => 0) (fun k hk => absurd hk (Nat.not_lt_zero k))
      refine loop d (readN B n E (nI d) (wantN (nI d)) 0 T (fun _ => 0)) hd hd2 hK (wantN (nI d)) 0 h T (by omega) (fun k hk => absurd hk (Nat.not_lt_zero k)) hT hA (frN_rf h) a1 a2 (fun z k hk => a3 (a1.trans z) k (by omega))
    rw [hw] at hw1 ⊢
    have no : (d < 2 ∧ ¬ cnt E < 10) → K (some (.int 0)) (SHn nn) h := by
      intro z
      have y : nI d = 0 ∨ nI d = 1 := by
        rcases (show d = 0 ∨ d = 1 by omega) with rfl | rfl
        · exact Or.inl rfl
        · exact Or.inr rfl
      have e : stmtB B n E T = (false, T, E) := by
        unfold stmtB
        rw [hw]
        exact if_pos (Or.inr ⟨y, z.2⟩)
      rw [e] at hK
      exact hK h hA hE (frP_rf h)
    by_cases q : d < 2
    · have y : b2i (nI d = 0 ∨ nI d = 1) = 1 := b2i_yes (by
        rcases (show d = 0 ∨ d = 1 by omega) with rfl | rfl
        · exact Or.inl rfl
        · exact Or.inr rfl)
      by_cases q2 : cnt E < 10
      · have y2 : (nI (cnt E) < 10) = True := eq_true (Int32.not_le.mp (nI_ge (b := 10) q2 (by omega)))
        simp only [u_X4_readStatement_0, u_X4_readStatement_24, u_X4_readStatement_26, u_X4_readStatement_34, u_X4_readStatement_60, u_X4_readStatement_77, j_X4_readStatement_24, j_X4_readStatement_26, j_X4_readStatement_34, j_X4_readStatement_60, j_X4_readStatement_77, ev_aload_n0, ev_callV0, ev_istore_n2, ev_iload_n2, ev_iconst, ev_ic_eq, ev_callS1, ev_if_eq, ev_aload_n1, ev_if_ne, ev_iret, ro_i, ro_z, ev_istore_n3, ev_istore4, ev_nop, ev_iload4, ev_iload_n3, ev_ic_ge, ev_callS3, ev_callV1, ev_getfR, ev_iastore, ev_iinc4, ev_goto, ev_callV2, ↓e_X0_hasRoom, ↓e_X4_carryOut, ↓e_X4_greatest, ↓e_X4_howManyNumbers, ↓e_X4_isBirth, ↓e_X4_isNumberUpTo, ↓e_X4_knownWord, ↓e_X4_nextToken, ↓e_X4_value, capO_z, kb_6, kb_11, kb_13, kb_15, kb_17, kb_18, kb_19, kb_23, kb_24, kb_25, kb_26, kb_29, kb_31, kb_35, kb_37, kb_41, kb_43, kb_44, kb_61, kb_75, kb_104, kb_7, kb_8, kb_9, kb_10, kb_12, kb_16, kb_20, kb_21, kb_30, kb_32, kb_40, kb_48, kb_50, kb_57, kb_59, kb_60, kb_63, kb_70, kb_78, kb_81, kb_82, kb_84, kb_97, kb_99, kb_100, kb_101, kb_119, kb_120, kb_122, ki_m1, ki_0, ki_1, ki_2, ki_3, ki_4, ki_5, ki_6, ki_7, ki_8, ki_9, ki_10, ki_11, ki_12, ki_13, ki_14, ki_15, ki_16, ki_17, ki_18, ki_19, ki_20, ki_21, ki_22, ki_23, ki_24, ki_25, ki_26, ki_27, ki_28, ki_29, ki_30, ki_31, ki_32, ki_33, ki_34, ki_35, ki_36, ki_37, ki_38, ki_39, ki_40, ki_41, ki_42, ki_43, ki_44, ki_45, ki_46, ki_47, ki_48, ki_49, ki_50, ki_51, ki_52, ki_53, ki_54, ki_55, ki_56, ki_57, ki_58, ki_59, ki_60, ki_61, ki_62, ki_63, ks_m2000, ks_m1006, ks_m1005, ks_m1004, ks_m1003, ks_m1002, ks_m1000, ks_200, ks_201, ks_300, ks_720, ks_9000, ks_10000, ks_250, ks_255, ks_256, ks_320, ks_660, ks_999, ks_1000, ks_9999, ks_12345, ne_2, ne_10, t_0, t_40, t_41, t_42, t_43, t_44, t_45, t_46, t_47, r_0_0, r_0_1, r_0_2, r_0_4, r_0_5, r_0_6, r_0_7, r_40_0, r_40_5, r_44_0, r_44_1, t_1, t_14, t_27, t_2, t_15, t_28, t_64, Nat.reduceEqDiff, ne_eq, not_false_eq_true, false_implies, true_implies, implies_true, Nat.reduceAdd, Nat.reduceLeDiff, Nat.reduceLT, Nat.reduceMul, or_true, true_or, if_true, if_false, not_true_eq_false, and_self, bF, Nat.reduceBEq, Bool.false_and, Bool.and_false, Bool.or_self, Bool.or_false, Bool.false_or, Bool.false_eq_true, Int.reduceAdd, Bool.and_self, Bool.true_and, Bool.and_true, beq_self_eq_true, not_not_, i10_, i01_, List.length_nil, List.length_cons, true_and, and_true, false_and, and_false, kl_i, kl_a, kl_n, kl_l, tl_s, tl_n, rv_S, pd_0, pd_e, pd_r, pd_i, pd_l, eq_false hw1, isE14t, c4, y, y2, one_z]
        exact ⟨d, hd, rfl, fin (fun _ => q2)⟩
      · have y2 : (nI (cnt E) < 10) = False := eq_false (fun z => absurd z (Int32.not_lt.mpr (nI_le (a := 10) (by omega) (by have := ho.2.1; omega))))
        simp only [u_X4_readStatement_0, u_X4_readStatement_24, u_X4_readStatement_26, u_X4_readStatement_34, u_X4_readStatement_60, u_X4_readStatement_77, j_X4_readStatement_24, j_X4_readStatement_26, j_X4_readStatement_34, j_X4_readStatement_60, j_X4_readStatement_77, ev_aload_n0, ev_callV0, ev_istore_n2, ev_iload_n2, ev_iconst, ev_ic_eq, ev_callS1, ev_if_eq, ev_aload_n1, ev_if_ne, ev_iret, ro_i, ro_z, ev_istore_n3, ev_istore4, ev_nop, ev_iload4, ev_iload_n3, ev_ic_ge, ev_callS3, ev_callV1, ev_getfR, ev_iastore, ev_iinc4, ev_goto, ev_callV2, ↓e_X0_hasRoom, ↓e_X4_carryOut, ↓e_X4_greatest, ↓e_X4_howManyNumbers, ↓e_X4_isBirth, ↓e_X4_isNumberUpTo, ↓e_X4_knownWord, ↓e_X4_nextToken, ↓e_X4_value, capO_z, kb_6, kb_11, kb_13, kb_15, kb_17, kb_18, kb_19, kb_23, kb_24, kb_25, kb_26, kb_29, kb_31, kb_35, kb_37, kb_41, kb_43, kb_44, kb_61, kb_75, kb_104, kb_7, kb_8, kb_9, kb_10, kb_12, kb_16, kb_20, kb_21, kb_30, kb_32, kb_40, kb_48, kb_50, kb_57, kb_59, kb_60, kb_63, kb_70, kb_78, kb_81, kb_82, kb_84, kb_97, kb_99, kb_100, kb_101, kb_119, kb_120, kb_122, ki_m1, ki_0, ki_1, ki_2, ki_3, ki_4, ki_5, ki_6, ki_7, ki_8, ki_9, ki_10, ki_11, ki_12, ki_13, ki_14, ki_15, ki_16, ki_17, ki_18, ki_19, ki_20, ki_21, ki_22, ki_23, ki_24, ki_25, ki_26, ki_27, ki_28, ki_29, ki_30, ki_31, ki_32, ki_33, ki_34, ki_35, ki_36, ki_37, ki_38, ki_39, ki_40, ki_41, ki_42, ki_43, ki_44, ki_45, ki_46, ki_47, ki_48, ki_49, ki_50, ki_51, ki_52, ki_53, ki_54, ki_55, ki_56, ki_57, ki_58, ki_59, ki_60, ki_61, ki_62, ki_63, ks_m2000, ks_m1006, ks_m1005, ks_m1004, ks_m1003, ks_m1002, ks_m1000, ks_200, ks_201, ks_300, ks_720, ks_9000, ks_10000, ks_250, ks_255, ks_256, ks_320, ks_660, ks_999, ks_1000, ks_9999, ks_12345, ne_2, ne_10, t_0, t_40, t_41, t_42, t_43, t_44, t_45, t_46, t_47, r_0_0, r_0_1, r_0_2, r_0_4, r_0_5, r_0_6, r_0_7, r_40_0, r_40_5, r_44_0, r_44_1, t_1, t_14, t_27, t_2, t_15, t_28, t_64, Nat.reduceEqDiff, ne_eq, not_false_eq_true, false_implies, true_implies, implies_true, Nat.reduceAdd, Nat.reduceLeDiff, Nat.reduceLT, Nat.reduceMul, or_true, true_or, if_true, if_false, not_true_eq_false, and_self, bF, Nat.reduceBEq, Bool.false_and, Bool.and_false, Bool.or_self, Bool.or_false, Bool.false_or, Bool.false_eq_true, Int.reduceAdd, Bool.and_self, Bool.true_and, Bool.and_true, beq_self_eq_true, not_not_, i10_, i01_, List.length_nil, List.length_cons, true_and, and_true, false_and, and_false, kl_i, kl_a, kl_n, kl_l, tl_s, tl_n, rv_S, pd_0, pd_e, pd_r, pd_i, pd_l, eq_false hw1, isE14t, c4, y, y2, one_z]
        exact no ⟨q, q2⟩
    · have y : b2i (nI d = 0 ∨ nI d = 1) = 0 := b2i_no (by
        rintro (z | z)
        · rw [show (0 : Int32) = nI 0 from rfl, nI_inj (by omega) (by omega)] at z; omega
        · rw [show (1 : Int32) = nI 1 from rfl, nI_inj (by omega) (by omega)] at z; omega)
      simp only [u_X4_readStatement_0, u_X4_readStatement_24, u_X4_readStatement_26, u_X4_readStatement_34, u_X4_readStatement_60, u_X4_readStatement_77, j_X4_readStatement_24, j_X4_readStatement_26, j_X4_readStatement_34, j_X4_readStatement_60, j_X4_readStatement_77, ev_aload_n0, ev_callV0, ev_istore_n2, ev_iload_n2, ev_iconst, ev_ic_eq, ev_callS1, ev_if_eq, ev_aload_n1, ev_if_ne, ev_iret, ro_i, ro_z, ev_istore_n3, ev_istore4, ev_nop, ev_iload4, ev_iload_n3, ev_ic_ge, ev_callS3, ev_callV1, ev_getfR, ev_iastore, ev_iinc4, ev_goto, ev_callV2, ↓e_X0_hasRoom, ↓e_X4_carryOut, ↓e_X4_greatest, ↓e_X4_howManyNumbers, ↓e_X4_isBirth, ↓e_X4_isNumberUpTo, ↓e_X4_knownWord, ↓e_X4_nextToken, ↓e_X4_value, capO_z, kb_6, kb_11, kb_13, kb_15, kb_17, kb_18, kb_19, kb_23, kb_24, kb_25, kb_26, kb_29, kb_31, kb_35, kb_37, kb_41, kb_43, kb_44, kb_61, kb_75, kb_104, kb_7, kb_8, kb_9, kb_10, kb_12, kb_16, kb_20, kb_21, kb_30, kb_32, kb_40, kb_48, kb_50, kb_57, kb_59, kb_60, kb_63, kb_70, kb_78, kb_81, kb_82, kb_84, kb_97, kb_99, kb_100, kb_101, kb_119, kb_120, kb_122, ki_m1, ki_0, ki_1, ki_2, ki_3, ki_4, ki_5, ki_6, ki_7, ki_8, ki_9, ki_10, ki_11, ki_12, ki_13, ki_14, ki_15, ki_16, ki_17, ki_18, ki_19, ki_20, ki_21, ki_22, ki_23, ki_24, ki_25, ki_26, ki_27, ki_28, ki_29, ki_30, ki_31, ki_32, ki_33, ki_34, ki_35, ki_36, ki_37, ki_38, ki_39, ki_40, ki_41, ki_42, ki_43, ki_44, ki_45, ki_46, ki_47, ki_48, ki_49, ki_50, ki_51, ki_52, ki_53, ki_54, ki_55, ki_56, ki_57, ki_58, ki_59, ki_60, ki_61, ki_62, ki_63, ks_m2000, ks_m1006, ks_m1005, ks_m1004, ks_m1003, ks_m1002, ks_m1000, ks_200, ks_201, ks_300, ks_720, ks_9000, ks_10000, ks_250, ks_255, ks_256, ks_320, ks_660, ks_999, ks_1000, ks_9999, ks_12345, ne_2, ne_10, t_0, t_40, t_41, t_42, t_43, t_44, t_45, t_46, t_47, r_0_0, r_0_1, r_0_2, r_0_4, r_0_5, r_0_6, r_0_7, r_40_0, r_40_5, r_44_0, r_44_1, t_1, t_14, t_27, t_2, t_15, t_28, t_64, Nat.reduceEqDiff, ne_eq, not_false_eq_true, false_implies, true_implies, implies_true, Nat.reduceAdd, Nat.reduceLeDiff, Nat.reduceLT, Nat.reduceMul, or_true, true_or, if_true, if_false, not_true_eq_false, and_self, bF, Nat.reduceBEq, Bool.false_and, Bool.and_false, Bool.or_self, Bool.or_false, Bool.false_or, Bool.false_eq_true, Int.reduceAdd, Bool.and_self, Bool.true_and, Bool.and_true, beq_self_eq_true, not_not_, i10_, i01_, List.length_nil, List.length_cons, true_and, and_true, false_and, and_false, kl_i, kl_a, kl_n, kl_l, tl_s, tl_n, rv_S, pd_0, pd_e, pd_r, pd_i, pd_l, eq_false hw1, y]
      exact ⟨d, hd, rfl, fin (fun z => absurd z q)⟩
theorem readN_ok {B : Nat → Int32} {n : Nat} {E : ES} {d : Nat} : ∀ r i (T : Nat × Nat × Int32) (N : Nat → Int32), T.2.1 ≤ n → okN E d i N → (readN B n E (nI d) r i T N).1 = true → okN E d (i + r) (readN B n E (nI d) r i T N).2.2
  | 0, i, T, N, _, hN, _ => hN
  | r + 1, i, T, N, hT, hN, h1 => by
    have g := nextB_g B hT
    rw [readN_s] at h1 ⊢
    by_cases q : numB B (nextB B n T.2.1) (mostN E (nI d) (nI i))
    · rw [if_pos q] at h1 ⊢
      obtain ⟨v, v1, v2, v3⟩ := numB_v g q
      have := readN_ok r (i + 1) (nextB B n T.2.1) _ g.2.1 (fun k hk => by
        unfold on1
        by_cases z : k = i
        · rw [if_pos z, z]; exact ⟨v, v1, v2, v3⟩
        · rw [if_neg z]; exact hN k (by omega)) h1
      rw [show i + (r + 1) = i + 1 + r by omega]
      exact this
    · rw [if_neg q] at h1; exact absurd (show false = true from h1) (by decide)
theorem stmtB_ok {B : Nat → Int32} {n : Nat} {E : ES} {T : Nat × Nat × Int32} (ho : okE E) (hT : T.2.1 ≤ n) : okE (stmtB B n E T).2.2 := by
  unfold stmtB
  split
  · exact ho
  · rename_i q
    dsimp only
    split
    · rename_i q2
      rcases wordB_r B T with hw | ⟨d, hd, hw⟩
      · exact absurd (Or.inl hw) q
      · rw [hw] at q q2 ⊢
        have z := readN_ok (wantN (nI d)) 0 T (fun _ => 0) hT (fun k hk => absurd hk (Nat.not_lt_zero k)) q2
        rw [Nat.zero_add] at z
        refine ok_doE hd ho ⟨fun hd2 => ?_, z⟩
        by_cases y : cnt E < 10
        · exact y
        · refine absurd (Or.inr ⟨?_, y⟩) q
          rcases (show d = 0 ∨ d = 1 by omega) with rfl | rfl
          · exact Or.inl rfl
          · exact Or.inr rfl
    · exact ho
theorem nI_a1 (a : Nat) : nI a + 1 = nI (a + 1) := nI_1 a
def P_X4_readInto : Sp0T := fun as h K => match as with
  | [.ref c, .ref b] => c = 40 ∧ b = 14 ∧ okE (est h 14) ∧ ∃ n : Nat, n ≤ 250 ∧ gI h 40 1 = nI n ∧ ∀ h', gI h' 40 2 = nI (intoB (gI h 41) n 250 1 (nextB (gI h 41) n 0) (est h 14)).2.1.1 → est h' 14 = (intoB (gI h 41) n 250 1 (nextB (gI h 41) n 0) (est h 14)).2.2 → frP h h' → K (some (.int (intoB (gI h 41) n 250 1 (nextB (gI h 41) n 0) (est h 14)).1)) h'
  | _ => False
def S_X4_readInto : SpT := lift P_X4_readInto
def L_X4_readInto_62 : List Item := (62, .iconst (-1), [], nS) :: (63, .ireturn, [], nS) :: []
def L_X4_readInto_52 : List Item := (52, .aload_n 0, [], nS) :: (53, .invokevirtual 25, [0, 4, 0, 0], S_X4_nextToken) :: (56, .iinc 2 1, [], nS) :: (59, .goto (-48), [11], nS) :: L_X4_readInto_62
def L_X4_readInto_42 : List Item := (42, .aload_n 0, [], nS) :: (43, .getfield 32, [4, 4, 0], nS) :: (46, .iconst 2, [], nS) :: (47, .if_icmp .eq 5, [52], nS) :: (50, .iconst (-1), [], nS) :: (51, .ireturn, [], nS) :: L_X4_readInto_52
def L_X4_readInto_28 : List Item := (28, .aload_n 0, [], nS) :: (29, .invokevirtual 25, [0, 4, 0, 0], S_X4_nextToken) :: (32, .aload_n 0, [], nS) :: (33, .getfield 32, [4, 4, 0], nS) :: (36, .iconst 4, [], nS) :: (37, .if_icmp .ne 5, [42], nS) :: (40, .iload_n 2, [], nS) :: (41, .ireturn, [], nS) :: L_X4_readInto_42
def L_X4_readInto_11 : List Item := (11, .iload_n 2, [], nS) :: (12, .sipush 250, [], nS) :: (15, .if_icmp .gt 47, [62], nS) :: (18, .aload_n 0, [], nS) :: (19, .aload_n 1, [], nS) :: (20, .invokevirtual 28, [1, 4, 0, 0], S_X4_readStatement) :: (23, .ifCond .ne 5, [28], nS) :: (26, .iconst (-1), [], nS) :: (27, .ireturn, [], nS) :: L_X4_readInto_28
def L_X4_readInto_0 : List Item := (0, .aload_n 0, [], nS) :: (1, .iconst 0, [], nS) :: (2, .putfield 22, [4, 3, 0], nS) :: (5, .aload_n 0, [], nS) :: (6, .invokevirtual 25, [0, 4, 0, 0], S_X4_nextToken) :: (9, .iconst 1, [], nS) :: (10, .istore_n 2, [], nS) :: (11, .nop, [], nS) :: L_X4_readInto_11
def L_X4_readInto : List Item := L_X4_readInto_0
theorem ok_X4_readInto : okB cX4_readInto L_X4_readInto = true := by decide +kernel
theorem lk_X4_readInto (l : Launch) : LKs l RX4 9 false L_X4_readInto := ⟨trivial, trivial, ⟨_, _, _, rfl, ⟨(RX4, TX4, 6), rfl, by decide, gT_of (List.mem_of_getElem? (i := 141) (by decide +kernel)) rfl⟩, rfl, fun q => absurd rfl q⟩, trivial, ⟨_, _, _, _, _, _, _, _, _, rfl, c_X4_nextToken l, Or.inl ⟨by decide, yv_X4_nextToken⟩, by decide, gT_of (List.mem_of_getElem? (i := 320) (by decide +kernel)) rfl⟩, trivial, trivial, trivial, trivial, trivial, trivial, trivial, trivial, ⟨_, _, _, _, _, _, _, _, _, rfl, c_X4_readStatement l, Or.inl ⟨by decide, yv_X4_readStatement⟩, by decide, gT_of (List.mem_of_getElem? (i := 327) (by decide +kernel)) rfl⟩, trivial, trivial, trivial, trivial, ⟨_, _, _, _, _, _, _, _, _, rfl, c_X4_nextToken l, Or.inl ⟨by decide, yv_X4_nextToken⟩, by decide, gT_of (List.mem_of_getElem? (i := 320) (by decide +kernel)) rfl⟩, trivial, ⟨_, _, _, rfl, ⟨(RX4, TX4, 6), rfl, by decide, gT_of (List.mem_of_getElem? (i := 142) (by decide +kernel)) rfl⟩, rfl⟩, trivial, trivial, trivial, trivial, trivial, ⟨_, _, _, rfl, ⟨(RX4, TX4, 6), rfl, by decide, gT_of (List.mem_of_getElem? (i := 142) (by decide +kernel)) rfl⟩, rfl⟩, trivial, trivial, trivial, trivial, trivial, ⟨_, _, _, _, _, _, _, _, _, rfl, c_X4_nextToken l, Or.inl ⟨by decide, yv_X4_nextToken⟩, by decide, gT_of (List.mem_of_getElem? (i := 320) (by decide +kernel)) rfl⟩, trivial, trivial, trivial, trivial, trivial⟩
theorem b_X4_readInto_0 : atL L_X4_readInto 0 = L_X4_readInto_0 := rfl
theorem b_X4_readInto_11 : atL L_X4_readInto 11 = L_X4_readInto_11 := rfl
theorem b_X4_readInto_28 : atL L_X4_readInto 28 = L_X4_readInto_28 := rfl
theorem b_X4_readInto_42 : atL L_X4_readInto 42 = L_X4_readInto_42 := rfl
theorem b_X4_readInto_52 : atL L_X4_readInto 52 = L_X4_readInto_52 := rfl
theorem b_X4_readInto_62 : atL L_X4_readInto 62 = L_X4_readInto_62 := rfl
theorem a_X4_readInto_28 : afw L_X4_readInto [11] 28 = L_X4_readInto_28 := rfl
theorem a_X4_readInto_42 : afw L_X4_readInto [11] 42 = L_X4_readInto_42 := rfl
theorem a_X4_readInto_52 : afw L_X4_readInto [11] 52 = L_X4_readInto_52 := rfl
theorem a_X4_readInto_62 : afw L_X4_readInto [11] 62 = L_X4_readInto_62 := rfl
theorem a_X4_readInto_11 : afw L_X4_readInto [11] 11 = [] := rfl
theorem yv_X4_readInto : YV yX4_readInto cX4_readInto 3 (some .int) 1 4 := ⟨⟨gT_of (List.mem_of_getElem? (i := 319) (by decide +kernel)) rfl, gT_of (List.mem_of_getElem? (i := 29) (by decide +kernel)) rfl, ⟨by decide, by decide⟩, by decide +kernel, by decide⟩, gT_of (List.mem_of_getElem? (i := 317) (by decide +kernel)) rfl, gT_of (List.mem_of_getElem? (i := 318) (by decide +kernel)) rfl, rfl⟩
theorem u_X4_readInto_0 : L_X4_readInto_0 = (0, .aload_n 0, [], nS) :: (1, .iconst 0, [], nS) :: (2, .putfield 22, [4, 3, 0], nS) :: (5, .aload_n 0, [], nS) :: (6, .invokevirtual 25, [0, 4, 0, 0], S_X4_nextToken) :: (9, .iconst 1, [], nS) :: (10, .istore_n 2, [], nS) :: (11, .nop, [], nS) :: L_X4_readInto_11 := nr rfl
theorem u_X4_readInto_11 : L_X4_readInto_11 = (11, .iload_n 2, [], nS) :: (12, .sipush 250, [], nS) :: (15, .if_icmp .gt 47, [62], nS) :: (18, .aload_n 0, [], nS) :: (19, .aload_n 1, [], nS) :: (20, .invokevirtual 28, [1, 4, 0, 0], S_X4_readStatement) :: (23, .ifCond .ne 5, [28], nS) :: (26, .iconst (-1), [], nS) :: (27, .ireturn, [], nS) :: L_X4_readInto_28 := nr rfl
theorem u_X4_readInto_28 : L_X4_readInto_28 = (28, .aload_n 0, [], nS) :: (29, .invokevirtual 25, [0, 4, 0, 0], S_X4_nextToken) :: (32, .aload_n 0, [], nS) :: (33, .getfield 32, [4, 4, 0], nS) :: (36, .iconst 4, [], nS) :: (37, .if_icmp .ne 5, [42], nS) :: (40, .iload_n 2, [], nS) :: (41, .ireturn, [], nS) :: L_X4_readInto_42 := nr rfl
theorem u_X4_readInto_42 : L_X4_readInto_42 = (42, .aload_n 0, [], nS) :: (43, .getfield 32, [4, 4, 0], nS) :: (46, .iconst 2, [], nS) :: (47, .if_icmp .eq 5, [52], nS) :: (50, .iconst (-1), [], nS) :: (51, .ireturn, [], nS) :: L_X4_readInto_52 := nr rfl
theorem u_X4_readInto_52 : L_X4_readInto_52 = (52, .aload_n 0, [], nS) :: (53, .invokevirtual 25, [0, 4, 0, 0], S_X4_nextToken) :: (56, .iinc 2 1, [], nS) :: (59, .goto (-48), [11], nS) :: L_X4_readInto_62 := nr rfl
theorem u_X4_readInto_62 : L_X4_readInto_62 = (62, .iconst (-1), [], nS) :: (63, .ireturn, [], nS) :: [] := nr rfl
theorem z_X4_readInto_0 : atL L_X4_readInto 0 = L_X4_readInto_0 := nr rfl
theorem z_X4_readInto_11 : atL L_X4_readInto 11 = L_X4_readInto_11 := nr rfl
theorem z_X4_readInto_28 : atL L_X4_readInto 28 = L_X4_readInto_28 := nr rfl
theorem z_X4_readInto_42 : atL L_X4_readInto 42 = L_X4_readInto_42 := nr rfl
theorem z_X4_readInto_52 : atL L_X4_readInto 52 = L_X4_readInto_52 := nr rfl
theorem z_X4_readInto_62 : atL L_X4_readInto 62 = L_X4_readInto_62 := nr rfl
theorem j_X4_readInto_28 {G : List Item → SpS → List Value → List Value → AH → Prop} {J : Nat → SpS → List Value → List Value → AH → Prop} {S : SpS} {lv st : List Value} {h : AH} : jmp G J (afw L_X4_readInto [11] 28) 28 S lv st h = G L_X4_readInto_28 S lv st h := nr rfl
theorem j_X4_readInto_42 {G : List Item → SpS → List Value → List Value → AH → Prop} {J : Nat → SpS → List Value → List Value → AH → Prop} {S : SpS} {lv st : List Value} {h : AH} : jmp G J (afw L_X4_readInto [11] 42) 42 S lv st h = G L_X4_readInto_42 S lv st h := nr rfl
theorem j_X4_readInto_52 {G : List Item → SpS → List Value → List Value → AH → Prop} {J : Nat → SpS → List Value → List Value → AH → Prop} {S : SpS} {lv st : List Value} {h : AH} : jmp G J (afw L_X4_readInto [11] 52) 52 S lv st h = G L_X4_readInto_52 S lv st h := nr rfl
theorem j_X4_readInto_62 {G : List Item → SpS → List Value → List Value → AH → Prop} {J : Nat → SpS → List Value → List Value → AH → Prop} {S : SpS} {lv st : List Value} {h : AH} : jmp G J (afw L_X4_readInto [11] 62) 62 S lv st h = G L_X4_readInto_62 S lv st h := nr rfl
theorem j_X4_readInto_11 {G : List Item → SpS → List Value → List Value → AH → Prop} {J : Nat → SpS → List Value → List Value → AH → Prop} {S : SpS} {lv st : List Value} {h : AH} : jmp G J (afw L_X4_readInto [11] 11) 11 S lv st h = J 11 S lv st h := nr rfl
theorem e_X4_readInto {c : Addr} {b : Addr} {h : AH} {K2 : Option Value → SpS → AH → Prop} : S_X4_readInto (SHn nn) [.ref c, .ref b] h K2 = (fun (K : Option Value → AH → Prop) => c = 40 ∧ b = 14 ∧ okE (est h 14) ∧ ∃ n : Nat, n ≤ 250 ∧ gI h 40 1 = nI n ∧ ∀ h', gI h' 40 2 = nI (intoB (gI h 41) n 250 1 (nextB (gI h 41) n 0) (est h 14)).2.1.1 → est h' 14 = (intoB (gI h 41) n 250 1 (nextB (gI h 41) n 0) (est h 14)).2.2 → frP h h' → K (some (.int (intoB (gI h 41) n 250 1 (nextB (gI h 41) n 0) (est h 14)).1)) h') (fun v h' => K2 v (SHn nn) h') := (lift_e P_X4_readInto [.ref c, .ref b] h K2).trans (nr rfl)
set_option maxRecDepth 100000 in
set_option maxHeartbeats 4000000 in
theorem c_X4_readInto (l : Launch) : Ct l yX4_readInto cX4_readInto 3 (some .int) 9 0 0 S_X4_readInto := by
  refine Ct0_mk L_X4_readInto [11] (by decide +kernel) (by decide) ok_X4_readInto (lk_X4_readInto l) ?_
  intro nn as h K hP
  match as, hP with
  | [.ref c, .ref b], ⟨hc, hb, ho, n, hn, g1, hK⟩ =>
  refine ⟨by simp [slotsN, Value.category], fun J hJ => ?_⟩
  subst hc hb
  generalize hB : gI h 41 = B at *
  generalize hE : est h 14 = E at *
  generalize hR : intoB B n 250 1 (nextB B n 0) E = R at *
  have loop : ∀ r a h1 T1 E1, a + r = 250 → goodT B n T1 → tokAt h1 T1 → frP h h1 → est h1 14 = E1 → okE E1 → intoB B n r (a + 1) T1 E1 = R → J 11 (SHn nn) [.ref 40, .ref 14, .int (nI (a + 1))] [] h1 := by
    intro r
    induction r with
    | zero =>
      intro a h1 T1 E1 ha hT1 hA1 hf hE1 ho1 hR1
      have l1 : ((250 : Int32) < nI (a + 1)) = True := by rw [show a = 250 by omega]; decide
      refine hJ 11 _ _ _ _ ?_
      simp only [z_X4_readInto_11, u_X4_readInto_0, u_X4_readInto_11, u_X4_readInto_28, u_X4_readInto_42, u_X4_readInto_52, u_X4_readInto_62, j_X4_readInto_11, j_X4_readInto_28, j_X4_readInto_42, j_X4_readInto_52, j_X4_readInto_62, ev_aload_n0, ev_iconst, ev_putfI, ev_callV0, ev_istore_n2, ev_nop, ev_iload_n2, ev_sipush, ev_ic_gt, ev_aload_n1, ev_callV1, ev_if_ne, ev_iret, ro_i, ro_z, ev_getfI, ev_ic_ne, ev_ic_eq, ev_iinc2, ev_goto, ↓e_X4_nextToken, ↓e_X4_readStatement, capO_z, kb_6, kb_11, kb_13, kb_15, kb_17, kb_18, kb_19, kb_23, kb_24, kb_25, kb_26, kb_29, kb_31, kb_35, kb_37, kb_41, kb_43, kb_44, kb_61, kb_75, kb_104, kb_7, kb_8, kb_9, kb_10, kb_12, kb_16, kb_20, kb_21, kb_30, kb_32, kb_40, kb_48, kb_50, kb_57, kb_59, kb_60, kb_63, kb_70, kb_78, kb_81, kb_82, kb_84, kb_97, kb_99, kb_100, kb_101, kb_119, kb_120, kb_122, ki_m1, ki_0, ki_1, ki_2, ki_3, ki_4, ki_5, ki_6, ki_7, ki_8, ki_9, ki_10, ki_11, ki_12, ki_13, ki_14, ki_15, ki_16, ki_17, ki_18, ki_19, ki_20, ki_21, ki_22, ki_23, ki_24, ki_25, ki_26, ki_27, ki_28, ki_29, ki_30, ki_31, ki_32, ki_33, ki_34, ki_35, ki_36, ki_37, ki_38, ki_39, ki_40, ki_41, ki_42, ki_43, ki_44, ki_45, ki_46, ki_47, ki_48, ki_49, ki_50, ki_51, ki_52, ki_53, ki_54, ki_55, ki_56, ki_57, ki_58, ki_59, ki_60, ki_61, ki_62, ki_63, ks_m2000, ks_m1006, ks_m1005, ks_m1004, ks_m1003, ks_m1002, ks_m1000, ks_200, ks_201, ks_300, ks_720, ks_9000, ks_10000, ks_250, ks_255, ks_256, ks_320, ks_660, ks_999, ks_1000, ks_9999, ks_12345, ne_2, ne_10, t_0, t_40, t_41, t_42, t_43, t_44, t_45, t_46, t_47, r_0_0, r_0_1, r_0_2, r_0_4, r_0_5, r_0_6, r_0_7, r_40_0, r_40_5, r_44_0, r_44_1, t_1, t_14, t_27, t_2, t_15, t_28, t_64, Nat.reduceEqDiff, ne_eq, not_false_eq_true, false_implies, true_implies, implies_true, Nat.reduceAdd, Nat.reduceLeDiff, Nat.reduceLT, Nat.reduceMul, or_true, true_or, if_true, if_false, not_true_eq_false, and_self, bF, Nat.reduceBEq, Bool.false_and, Bool.and_false, Bool.or_self, Bool.or_false, Bool.false_or, Bool.false_eq_true, Int.reduceAdd, Bool.and_self, Bool.true_and, Bool.and_true, beq_self_eq_true, not_not_, i10_, i01_, List.length_nil, List.length_cons, true_and, and_true, false_and, and_false, kl_i, kl_a, kl_n, kl_l, tl_s, tl_n, rv_S, pd_0, pd_e, pd_r, pd_i, pd_l, l1]
      have e : R = (-1, T1, E1) := hR1.symm
      rw [e] at hK
      exact hK h1 hA1.1 hE1 hf
    | succ r ih =>
      intro a h1 T1 E1 ha hT1 hA1 hf hE1 ho1 hR1
      have l1 : ((250 : Int32) < nI (a + 1)) = False := eq_false (Int32.not_lt.mpr (nI_le (b := 250) (by omega) (by omega)))
      refine hJ 11 _ _ _ _ ?_
      simp only [z_X4_readInto_11, u_X4_readInto_0, u_X4_readInto_11, u_X4_readInto_28, u_X4_readInto_42, u_X4_readInto_52, u_X4_readInto_62, j_X4_readInto_11, j_X4_readInto_28, j_X4_readInto_42, j_X4_readInto_52, j_X4_readInto_62, ev_aload_n0, ev_iconst, ev_putfI, ev_callV0, ev_istore_n2, ev_nop, ev_iload_n2, ev_sipush, ev_ic_gt, ev_aload_n1, ev_callV1, ev_if_ne, ev_iret, ro_i, ro_z, ev_getfI, ev_ic_ne, ev_ic_eq, ev_iinc2, ev_goto, ↓e_X4_nextToken, ↓e_X4_readStatement, capO_z, kb_6, kb_11, kb_13, kb_15, kb_17, kb_18, kb_19, kb_23, kb_24, kb_25, kb_26, kb_29, kb_31, kb_35, kb_37, kb_41, kb_43, kb_44, kb_61, kb_75, kb_104, kb_7, kb_8, kb_9, kb_10, kb_12, kb_16, kb_20, kb_21, kb_30, kb_32, kb_40, kb_48, kb_50, kb_57, kb_59, kb_60, kb_63, kb_70, kb_78, kb_81, kb_82, kb_84, kb_97, kb_99, kb_100, kb_101, kb_119, kb_120, kb_122, ki_m1, ki_0, ki_1, ki_2, ki_3, ki_4, ki_5, ki_6, ki_7, ki_8, ki_9, ki_10, ki_11, ki_12, ki_13, ki_14, ki_15, ki_16, ki_17, ki_18, ki_19, ki_20, ki_21, ki_22, ki_23, ki_24, ki_25, ki_26, ki_27, ki_28, ki_29, ki_30, ki_31, ki_32, ki_33, ki_34, ki_35, ki_36, ki_37, ki_38, ki_39, ki_40, ki_41, ki_42, ki_43, ki_44, ki_45, ki_46, ki_47, ki_48, ki_49, ki_50, ki_51, ki_52, ki_53, ki_54, ki_55, ki_56, ki_57, ki_58, ki_59, ki_60, ki_61, ki_62, ki_63, ks_m2000, ks_m1006, ks_m1005, ks_m1004, ks_m1003, ks_m1002, ks_m1000, ks_200, ks_201, ks_300, ks_720, ks_9000, ks_10000, ks_250, ks_255, ks_256, ks_320, ks_660, ks_999, ks_1000, ks_9999, ks_12345, ne_2, ne_10, t_0, t_40, t_41, t_42, t_43, t_44, t_45, t_46, t_47, r_0_0, r_0_1, r_0_2, r_0_4, r_0_5, r_0_6, r_0_7, r_40_0, r_40_5, r_44_0, r_44_1, t_1, t_14, t_27, t_2, t_15, t_28, t_64, Nat.reduceEqDiff, ne_eq, not_false_eq_true, false_implies, true_implies, implies_true, Nat.reduceAdd, Nat.reduceLeDiff, Nat.reduceLT, Nat.reduceMul, or_true, true_or, if_true, if_false, not_true_eq_false, and_self, bF, Nat.reduceBEq, Bool.false_and, Bool.and_false, Bool.or_self, Bool.or_false, Bool.false_or, Bool.false_eq_true, Int.reduceAdd, Bool.and_self, Bool.true_and, Bool.and_true, beq_self_eq_true, not_not_, i10_, i01_, List.length_nil, List.length_cons, true_and, and_true, false_and, and_false, kl_i, kl_a, kl_n, kl_l, tl_s, tl_n, rv_S, pd_0, pd_e, pd_r, pd_i, pd_l, l1, isE14t, hE1, eq_true ho1, nI_1]
      refine ⟨n, T1, hn, by rw [frP_B hf, hB]; exact hT1, (frP_S hf).trans g1, hA1, ?_⟩
      rw [frP_B hf, hB]
      rw [intoB_s] at hR1
      have bS := stmtB_b (B := B) E1 hT1.1 hT1.2.1
      have oS := stmtB_ok (B := B) (T := T1) ho1 hT1.2.1
      generalize stmtB B n E1 T1 = S at *
      intro h2 hA2 hE2 hf2
      have f2 : frP h h2 := frP_tr hf hf2
      refine ⟨fun q => ?_, fun q => ?_⟩
      · have q1 : S.1 = true := by
          by_cases z : S.1 = true
          · exact z
          · rw [b2i_no z] at q; exact absurd rfl q
        rw [if_neg (fun z => z q1)] at hR1
        refine ⟨n, S.2.1.2.1, hn, bS.2, (frP_S f2).trans g1, hA2.2.1, ?_⟩
        rw [frP_B f2, hB]
        have g2 := nextB_g B bS.2
        intro h3 hA3 hf3
        have f3 : frP h h3 := frP_tr f2 (frN_P (frT_N hf3))
        have e3 : est h3 14 = S.2.2 := (frN_E (frT_N hf3) (by rw [hE2]; exact oS.2.1)).trans hE2
        refine ⟨fun q3 => ⟨fun q4 => ?_, fun q4 => ?_⟩, fun q3 => ?_⟩
        · rw [hA3.2.2] at q3 q4
          rw [if_neg q3, if_pos q4] at hR1
          refine ⟨n, (nextB B n S.2.1.2.1).2.1, hn, g2.2.1, (frP_S f3).trans g1, hA3.2.1, ?_⟩
          rw [frP_B f3, hB]
          intro h4 hA4 hf4
          exact ih (a + 1) h4 _ S.2.2 (by omega) (nextB_g B g2.2.1) hA4 (frP_tr f3 (frN_P (frT_N hf4))) ((frN_E (frT_N hf4) (by rw [e3]; exact oS.2.1)).trans e3) oS hR1
        · rw [hA3.2.2] at q3 q4
          rw [if_neg q3, if_neg q4] at hR1
          rw [← hR1] at hK
          exact hK h3 hA3.1 e3 f3
        · rw [hA3.2.2] at q3
          rw [if_pos q3] at hR1
          rw [← hR1] at hK
          exact hK h3 hA3.1 e3 f3
      · have q1 : ¬ S.1 = true := fun z => by rw [b2i_yes z] at q; exact absurd q (by decide)
        rw [if_pos q1] at hR1
        rw [← hR1] at hK
        exact hK h2 hA2.1 hE2 f2
  refine hJ 0 _ _ _ _ ?_
  simp only [z_X4_readInto_0, u_X4_readInto_0, u_X4_readInto_11, u_X4_readInto_28, u_X4_readInto_42, u_X4_readInto_52, u_X4_readInto_62, j_X4_readInto_11, j_X4_readInto_28, j_X4_readInto_42, j_X4_readInto_52, j_X4_readInto_62, ev_aload_n0, ev_iconst, ev_putfI, ev_callV0, ev_istore_n2, ev_nop, ev_iload_n2, ev_sipush, ev_ic_gt, ev_aload_n1, ev_callV1, ev_if_ne, ev_iret, ro_i, ro_z, ev_getfI, ev_ic_ne, ev_ic_eq, ev_iinc2, ev_goto, ↓e_X4_nextToken, ↓e_X4_readStatement, capO_z, kb_6, kb_11, kb_13, kb_15, kb_17, kb_18, kb_19, kb_23, kb_24, kb_25, kb_26, kb_29, kb_31, kb_35, kb_37, kb_41, kb_43, kb_44, kb_61, kb_75, kb_104, kb_7, kb_8, kb_9, kb_10, kb_12, kb_16, kb_20, kb_21, kb_30, kb_32, kb_40, kb_48, kb_50, kb_57, kb_59, kb_60, kb_63, kb_70, kb_78, kb_81, kb_82, kb_84, kb_97, kb_99, kb_100, kb_101, kb_119, kb_120, kb_122, ki_m1, ki_0, ki_1, ki_2, ki_3, ki_4, ki_5, ki_6, ki_7, ki_8, ki_9, ki_10, ki_11, ki_12, ki_13, ki_14, ki_15, ki_16, ki_17, ki_18, ki_19, ki_20, ki_21, ki_22, ki_23, ki_24, ki_25, ki_26, ki_27, ki_28, ki_29, ki_30, ki_31, ki_32, ki_33, ki_34, ki_35, ki_36, ki_37, ki_38, ki_39, ki_40, ki_41, ki_42, ki_43, ki_44, ki_45, ki_46, ki_47, ki_48, ki_49, ki_50, ki_51, ki_52, ki_53, ki_54, ki_55, ki_56, ki_57, ki_58, ki_59, ki_60, ki_61, ki_62, ki_63, ks_m2000, ks_m1006, ks_m1005, ks_m1004, ks_m1003, ks_m1002, ks_m1000, ks_200, ks_201, ks_300, ks_720, ks_9000, ks_10000, ks_250, ks_255, ks_256, ks_320, ks_660, ks_999, ks_1000, ks_9999, ks_12345, ne_2, ne_10, t_0, t_40, t_41, t_42, t_43, t_44, t_45, t_46, t_47, r_0_0, r_0_1, r_0_2, r_0_4, r_0_5, r_0_6, r_0_7, r_40_0, r_40_5, r_44_0, r_44_1, t_1, t_14, t_27, t_2, t_15, t_28, t_64, Nat.reduceEqDiff, ne_eq, not_false_eq_true, false_implies, true_implies, implies_true, Nat.reduceAdd, Nat.reduceLeDiff, Nat.reduceLT, Nat.reduceMul, or_true, true_or, if_true, if_false, not_true_eq_false, and_self, bF, Nat.reduceBEq, Bool.false_and, Bool.and_false, Bool.or_self, Bool.or_false, Bool.false_or, Bool.false_eq_true, Int.reduceAdd, Bool.and_self, Bool.true_and, Bool.and_true, beq_self_eq_true, not_not_, i10_, i01_, List.length_nil, List.length_cons, true_and, and_true, false_and, and_false, kl_i, kl_a, kl_n, kl_l, tl_s, tl_n, rv_S, pd_0, pd_e, pd_r, pd_i, pd_l]
  refine ⟨n, 0, hn, Nat.zero_le n, ?_, ?_, ?_⟩
  · rw [gT_t, if_neg (by omega)]; exact g1
  · rw [gT_t, if_pos rfl]; rfl
  · rw [gT_b, hB]
    intro h1 hA1 hf1
    have f0 : frT h (pI h 40 3 0) := frT_t (frT_rf h) (by omega)
    have f1 : frN h h1 := frN_tr (frT_N f0) (frT_N hf1)
    exact loop 250 0 h1 _ E (by omega) (nextB_g B (Nat.zero_le n)) hA1 (frN_P f1) ((frN_E f1 (by rw [hE]; exact ho.2.1)).trans hE) ho hR
/-! ===== THE TAPE: the store ===== -/
def intoS (G : GV) : Int32 × (Nat × Nat × Int32) × ES := intoB (vB G) (ix (vS G)) 250 1 (nextB (vB G) (ix (vS G)) 0) (vE G)
def g_store (G : GV) : Int32 × GV := if (intoS G).1 = -1 then (-2000 - nI (intoS G).2.1.1, gR (uT G 0 (vB G)) (-1002)) else ((intoS G).1, uT (uE G (intoS G).2.2) 0 (vB G))
theorem simX_st {h h' : AH} {G : GV} {E : ES} (hI : okG G) (hG : simX h G) (hE : est h' 1 = E) (f1 : ∀ c k, ¬ ((1 ≤ c ∧ c < 27) ∨ c = 40 ∨ c = 42) → gI h' c k = gI h c k) (f2 : ∀ c k, gJ h' c k = gJ h c k) (h0 : gI h' 40 1 = 0) : simX h' (uT (uE G E) 0 (vB G)) := by
  refine ⟨hE, ⟨?_, fun z => ?_⟩, ⟨h0, fun i hi => ?_⟩, fun s hs => ⟨?_, fun z => ⟨?_, fun j hj => ?_⟩⟩, fun k hk2 => ?_⟩
  · rw [f1 _ _ (by omega)]; exact hG.2.1.1
  · have e := hG.2.1.2 z
    show est h' 27 = vKE G
    rw [← e]
    exact est_same (fun k => f1 _ _ (by omega)) (fun k => f1 _ _ (by omega)) (fun i k hi => f1 _ _ (by omega)) (by rw [e]; exact (okG_k hI z).2)
  · exact absurd (show i < (0 : Int32).toNatClampNeg from hi) (by rw [show ((0 : Int32).toNatClampNeg) = 0 by decide]; omega)
  · rw [f1 _ _ (by omega)]; exact (hG.2.2.2.1 s hs).1
  · rw [f1 _ _ (by omega)]; exact ((hG.2.2.2.1 s hs).2 z).1
  · rw [f2]; exact ((hG.2.2.2.1 s hs).2 z).2 j hj
  · rw [f1 _ _ (by omega)]; exact hG.2.2.2.2 k hk2
theorem okG_wipe {G : GV} (hI : okG G) : okG (uT G 0 (vB G)) := by
  obtain ⟨T, h1, h2, h3, h4, h5⟩ := hI
  exact ⟨T, h1, h2, h3, ⟨0, by omega, rfl⟩, h5⟩
theorem intoB_ok {B : Nat → Int32} {n : Nat} : ∀ r k (T : Nat × Nat × Int32) E, okE E → T.1 ≤ T.2.1 → T.2.1 ≤ n → okE (intoB B n r k T E).2.2
  | 0, _, _, _, ho, _, _ => ho
  | r + 1, k, T, E, ho, h1, h2 => by
    have bS := stmtB_b (B := B) E h1 h2
    have oS := stmtB_ok (B := B) (T := T) ho h2
    have g2 := nextB_g B bS.2
    have g3 := nextB_g B g2.2.1
    rw [intoB_s]
    split
    · exact oS
    · split
      · exact oS
      · split
        · exact intoB_ok r (k + 1) _ _ oS g3.1 g3.2.1
        · exact oS
def P_X5_store : Sp0T := fun as h K => match as with
  | [.ref x] => x = 0 ∧ XP h (fun G => g_store G) K
  | _ => False
def S_X5_store : SpT := lift P_X5_store
def L_X5_store_56 : List Item := (56, .aload_n 0, [], nS) :: (57, .getfield 10, [5, 0, 1], nS) :: (60, .aload_n 0, [], nS) :: (61, .getfield 16, [5, 1, 1], nS) :: (64, .invokevirtual 151, [1, 0, 0, 0], S_X0_copyFrom) :: (67, .iload_n 1, [], nS) :: (68, .ireturn, [], nS) :: []
def L_X5_store_0 : List Item := (0, .aload_n 0, [], nS) :: (1, .getfield 16, [5, 1, 1], nS) :: (4, .aload_n 0, [], nS) :: (5, .getfield 10, [5, 0, 1], nS) :: (8, .invokevirtual 151, [1, 0, 0, 0], S_X0_copyFrom) :: (11, .aload_n 0, [], nS) :: (12, .getfield 25, [5, 4, 1], nS) :: (15, .aload_n 0, [], nS) :: (16, .getfield 16, [5, 1, 1], nS) :: (19, .invokevirtual 155, [1, 4, 0, 0], S_X4_readInto) :: (22, .istore_n 1, [], nS) :: (23, .aload_n 0, [], nS) :: (24, .getfield 25, [5, 4, 1], nS) :: (27, .iconst 0, [], nS) :: (28, .putfield 147, [4, 1, 0], nS) :: (31, .iload_n 1, [], nS) :: (32, .iconst (-1), [], nS) :: (33, .if_icmp .ne 23, [56], nS) :: (36, .aload_n 0, [], nS) :: (37, .sipush (-1002), [], nS) :: (40, .invokevirtual 55, [1, 5, 0, 0], S_X5_refuse) :: (43, .pop, [], nS) :: (44, .sipush (-2000), [], nS) :: (47, .aload_n 0, [], nS) :: (48, .getfield 25, [5, 4, 1], nS) :: (51, .getfield 159, [4, 2, 0], nS) :: (54, .isub, [], nS) :: (55, .ireturn, [], nS) :: L_X5_store_56
def L_X5_store : List Item := L_X5_store_0
theorem ok_X5_store : okB cX5_store L_X5_store = true := by decide +kernel
theorem lk_X5_store (l : Launch) : LKs l RX5 10 false L_X5_store := ⟨trivial, ⟨_, _, _, rfl, ⟨(RX5, TX5, 8), rfl, by decide, gT_of (List.mem_of_getElem? (i := 192) (by decide +kernel)) rfl⟩, rfl⟩, trivial, ⟨_, _, _, rfl, ⟨(RX5, TX5, 8), rfl, by decide, gT_of (List.mem_of_getElem? (i := 191) (by decide +kernel)) rfl⟩, rfl⟩, ⟨_, _, _, _, _, _, _, _, _, rfl, c_X0_copyFrom l, Or.inl ⟨by decide, yv_X0_copyFrom⟩, by decide, gT_of (List.mem_of_getElem? (i := 305) (by decide +kernel)) rfl⟩, trivial, ⟨_, _, _, rfl, ⟨(RX5, TX5, 8), rfl, by decide, gT_of (List.mem_of_getElem? (i := 195) (by decide +kernel)) rfl⟩, rfl⟩, trivial, ⟨_, _, _, rfl, ⟨(RX5, TX5, 8), rfl, by decide, gT_of (List.mem_of_getElem? (i := 192) (by decide +kernel)) rfl⟩, rfl⟩, ⟨_, _, _, _, _, _, _, _, _, rfl, c_X4_readInto l, Or.inl ⟨by decide, yv_X4_readInto⟩, by decide, gT_of (List.mem_of_getElem? (i := 316) (by decide +kernel)) rfl⟩, trivial, trivial, ⟨_, _, _, rfl, ⟨(RX5, TX5, 8), rfl, by decide, gT_of (List.mem_of_getElem? (i := 195) (by decide +kernel)) rfl⟩, rfl⟩, trivial, ⟨_, _, _, rfl, ⟨(RX4, TX4, 6), rfl, by decide, gT_of (List.mem_of_getElem? (i := 138) (by decide +kernel)) rfl⟩, rfl, fun q => absurd rfl q⟩, trivial, trivial, trivial, trivial, trivial, ⟨_, _, _, _, _, _, _, _, _, rfl, c_X5_refuse l, Or.inl ⟨by decide, yv_X5_refuse⟩, by decide, gT_of (List.mem_of_getElem? (i := 226) (by decide +kernel)) rfl⟩, trivial, trivial, trivial, ⟨_, _, _, rfl, ⟨(RX5, TX5, 8), rfl, by decide, gT_of (List.mem_of_getElem? (i := 195) (by decide +kernel)) rfl⟩, rfl⟩, ⟨_, _, _, rfl, ⟨(RX4, TX4, 6), rfl, by decide, gT_of (List.mem_of_getElem? (i := 140) (by decide +kernel)) rfl⟩, rfl⟩, trivial, trivial, trivial, ⟨_, _, _, rfl, ⟨(RX5, TX5, 8), rfl, by decide, gT_of (List.mem_of_getElem? (i := 191) (by decide +kernel)) rfl⟩, rfl⟩, trivial, ⟨_, _, _, rfl, ⟨(RX5, TX5, 8), rfl, by decide, gT_of (List.mem_of_getElem? (i := 192) (by decide +kernel)) rfl⟩, rfl⟩, ⟨_, _, _, _, _, _, _, _, _, rfl, c_X0_copyFrom l, Or.inl ⟨by decide, yv_X0_copyFrom⟩, by decide, gT_of (List.mem_of_getElem? (i := 305) (by decide +kernel)) rfl⟩, trivial, trivial, trivial⟩
theorem b_X5_store_0 : atL L_X5_store 0 = L_X5_store_0 := rfl
theorem b_X5_store_56 : atL L_X5_store 56 = L_X5_store_56 := rfl
theorem a_X5_store_56 : afw L_X5_store [] 56 = L_X5_store_56 := rfl
theorem yv_X5_store : YV yX5_store cX5_store 2 (some .int) 0 5 := ⟨⟨gT_of (List.mem_of_getElem? (i := 304) (by decide +kernel)) rfl, gT_of (List.mem_of_getElem? (i := 26) (by decide +kernel)) rfl, ⟨by decide, by decide⟩, by decide +kernel, by decide⟩, gT_of (List.mem_of_getElem? (i := 302) (by decide +kernel)) rfl, gT_of (List.mem_of_getElem? (i := 303) (by decide +kernel)) rfl, rfl⟩
theorem u_X5_store_0 : L_X5_store_0 = (0, .aload_n 0, [], nS) :: (1, .getfield 16, [5, 1, 1], nS) :: (4, .aload_n 0, [], nS) :: (5, .getfield 10, [5, 0, 1], nS) :: (8, .invokevirtual 151, [1, 0, 0, 0], S_X0_copyFrom) :: (11, .aload_n 0, [], nS) :: (12, .getfield 25, [5, 4, 1], nS) :: (15, .aload_n 0, [], nS) :: (16, .getfield 16, [5, 1, 1], nS) :: (19, .invokevirtual 155, [1, 4, 0, 0], S_X4_readInto) :: (22, .istore_n 1, [], nS) :: (23, .aload_n 0, [], nS) :: (24, .getfield 25, [5, 4, 1], nS) :: (27, .iconst 0, [], nS) :: (28, .putfield 147, [4, 1, 0], nS) :: (31, .iload_n 1, [], nS) :: (32, .iconst (-1), [], nS) :: (33, .if_icmp .ne 23, [56], nS) :: (36, .aload_n 0, [], nS) :: (37, .sipush (-1002), [], nS) :: (40, .invokevirtual 55, [1, 5, 0, 0], S_X5_refuse) :: (43, .pop, [], nS) :: (44, .sipush (-2000), [], nS) :: (47, .aload_n 0, [], nS) :: (48, .getfield 25, [5, 4, 1], nS) :: (51, .getfield 159, [4, 2, 0], nS) :: (54, .isub, [], nS) :: (55, .ireturn, [], nS) :: L_X5_store_56 := nr rfl
theorem u_X5_store_56 : L_X5_store_56 = (56, .aload_n 0, [], nS) :: (57, .getfield 10, [5, 0, 1], nS) :: (60, .aload_n 0, [], nS) :: (61, .getfield 16, [5, 1, 1], nS) :: (64, .invokevirtual 151, [1, 0, 0, 0], S_X0_copyFrom) :: (67, .iload_n 1, [], nS) :: (68, .ireturn, [], nS) :: [] := nr rfl
theorem z_X5_store_0 : atL L_X5_store 0 = L_X5_store_0 := nr rfl
theorem z_X5_store_56 : atL L_X5_store 56 = L_X5_store_56 := nr rfl
theorem j_X5_store_56 {G : List Item → SpS → List Value → List Value → AH → Prop} {J : Nat → SpS → List Value → List Value → AH → Prop} {S : SpS} {lv st : List Value} {h : AH} : jmp G J (afw L_X5_store [] 56) 56 S lv st h = G L_X5_store_56 S lv st h := nr rfl
theorem e_X5_store {x : Addr} {h : AH} {K2 : Option Value → SpS → AH → Prop} : S_X5_store (SHn nn) [.ref x] h K2 = (fun (K : Option Value → AH → Prop) => x = 0 ∧ XP h (fun G => g_store G) K) (fun v h' => K2 v (SHn nn) h') := (lift_e P_X5_store [.ref x] h K2).trans (nr rfl)
set_option maxRecDepth 100000 in
set_option maxHeartbeats 4000000 in
theorem c_X5_store (l : Launch) : Ct l yX5_store cX5_store 2 (some .int) 10 0 0 S_X5_store := by
  refine Ct0_mk L_X5_store [] (by decide +kernel) (by decide) ok_X5_store (lk_X5_store l) ?_
  intro nn as h K hP
  match as, hP with
  | [.ref x], ⟨hx, G, hG, hI, hK⟩ =>
  refine ⟨by simp [slotsN, Value.category], fun J hJ => ?_⟩
  subst hx
  dsimp only at hK
  have hE : est h 1 = vE G := hG.1
  have ho := okG_ok hI
  have ho2 := okG_t hI
  have hn : cnt (vE G) ≤ 10 := okG_n hI
  have c4 : gI h 1 4 = nI (cnt (vE G)) := by rw [← hE]; exact est_c (hE ▸ ho)
  obtain ⟨n, hn250, eS⟩ := okG_s hI
  have hS := hG.2.2.1.1
  have hB := hG.2.2.1.2
  rw [eS, nI_clamp (show n < 2 ^ 31 by omega)] at hB
  rw [eS] at hS
  have eG : intoS G = intoB (gI h 41) n 250 1 (nextB (gI h 41) n 0) (vE G) := by
    unfold intoS
    rw [eS, ix_m (j := n) (by omega), nextB_x (B := vB G) (B' := gI h 41) (fun i hi => (hB i hi).symm) (Nat.zero_le n)]
    have g := nextB_g (gI h 41) (Nat.zero_le n)
    exact intoB_x (fun i hi => (hB i hi).symm) _ _ _ _ g.1 g.2.1
  have oR : okE (intoS G).2.2 := by
    rw [eG]
    have g := nextB_g (gI h 41) (Nat.zero_le n)
    exact intoB_ok _ _ _ _ ho g.1 g.2.1
  unfold g_store at hK
  generalize intoS G = R at *
  refine hJ 0 _ _ _ _ ?_
  simp only [z_X5_store_0, u_X5_store_0, u_X5_store_56, j_X5_store_56, ev_aload_n0, ev_getfR, ev_callV1, ev_istore_n1, ev_iconst, ev_putfI, ev_iload_n1, ev_ic_ne, ev_sipush, ev_pop_int, ev_pop_ref, ev_getfI, ev_isub, ev_iret, ro_i, ro_z, ↓e_X0_copyFrom, ↓e_X4_readInto, ↓e_X5_refuse, capO_z, kb_6, kb_11, kb_13, kb_15, kb_17, kb_18, kb_19, kb_23, kb_24, kb_25, kb_26, kb_29, kb_31, kb_35, kb_37, kb_41, kb_43, kb_44, kb_61, kb_75, kb_104, kb_7, kb_8, kb_9, kb_10, kb_12, kb_16, kb_20, kb_21, kb_30, kb_32, kb_40, kb_48, kb_50, kb_57, kb_59, kb_60, kb_63, kb_70, kb_78, kb_81, kb_82, kb_84, kb_97, kb_99, kb_100, kb_101, kb_119, kb_120, kb_122, ki_m1, ki_0, ki_1, ki_2, ki_3, ki_4, ki_5, ki_6, ki_7, ki_8, ki_9, ki_10, ki_11, ki_12, ki_13, ki_14, ki_15, ki_16, ki_17, ki_18, ki_19, ki_20, ki_21, ki_22, ki_23, ki_24, ki_25, ki_26, ki_27, ki_28, ki_29, ki_30, ki_31, ki_32, ki_33, ki_34, ki_35, ki_36, ki_37, ki_38, ki_39, ki_40, ki_41, ki_42, ki_43, ki_44, ki_45, ki_46, ki_47, ki_48, ki_49, ki_50, ki_51, ki_52, ki_53, ki_54, ki_55, ki_56, ki_57, ki_58, ki_59, ki_60, ki_61, ki_62, ki_63, ks_m2000, ks_m1006, ks_m1005, ks_m1004, ks_m1003, ks_m1002, ks_m1000, ks_200, ks_201, ks_300, ks_720, ks_9000, ks_10000, ks_250, ks_255, ks_256, ks_320, ks_660, ks_999, ks_1000, ks_9999, ks_12345, ne_2, ne_10, t_0, t_40, t_41, t_42, t_43, t_44, t_45, t_46, t_47, r_0_0, r_0_1, r_0_2, r_0_4, r_0_5, r_0_6, r_0_7, r_40_0, r_40_5, r_44_0, r_44_1, t_1, t_14, t_27, t_2, t_15, t_28, t_64, Nat.reduceEqDiff, ne_eq, not_false_eq_true, false_implies, true_implies, implies_true, Nat.reduceAdd, Nat.reduceLeDiff, Nat.reduceLT, Nat.reduceMul, or_true, true_or, if_true, if_false, not_true_eq_false, and_self, bF, Nat.reduceBEq, Bool.false_and, Bool.and_false, Bool.or_self, Bool.or_false, Bool.false_or, Bool.false_eq_true, Int.reduceAdd, Bool.and_self, Bool.true_and, Bool.and_true, beq_self_eq_true, not_not_, i10_, i01_, List.length_nil, List.length_cons, true_and, and_true, false_and, and_false, kl_i, kl_a, kl_n, kl_l, tl_s, tl_n, rv_S, pd_0, pd_e, pd_r, pd_i, pd_l, isE1t, isE14t, hE]
  refine ⟨ho, fun h1 e1 p1 => ?_⟩
  have b1 : gI h1 41 = gI h 41 := funext fun k => p1.1 41 k (by omega)
  refine ⟨by rw [e1]; exact ho, n, hn250, (p1.1 40 1 (by omega)).trans hS, ?_⟩
  rw [b1, e1, ← eG]
  intro h2 s2 e2 p2
  have fr2 : ∀ c k, ¬ ((c = 40 ∧ 2 ≤ k) ∨ c = 42 ∨ (14 ≤ c ∧ c < 27)) → gI h2 c k = gI h c k := fun c k hc => (p2.1 c k hc).trans (p1.1 c k (by omega))
  have fj2 : ∀ c k, gJ h2 c k = gJ h c k := fun c k => (p2.2 c k).trans (p1.2 c k)
  have e3 : est (pI h2 40 1 0) 14 = R.2.2 := (est_pO (b := 14) (c := 40) (by omega) (by rw [e2]; exact oR.2.1)).trans e2
  refine ⟨fun q => ?_, fun q => ⟨kc2, ?_⟩⟩
  · simp only [if_neg q] at hK
    refine ⟨by rw [e3]; exact oR, fun h4 e4 p4 => ?_⟩
    have fr4 : ∀ c k, ¬ ((1 ≤ c ∧ c < 27) ∨ c = 40 ∨ c = 42) → gI h4 c k = gI h c k := fun c k hc => by
      rw [p4.1 c k (by omega), gI_pI, if_neg (by omega)]
      exact fr2 c k (by omega)
    refine hK h4 (simX_st hI hG (e4.trans e3) fr4 (fun c k => (p4.2 c k).trans (fj2 c k)) ?_) ⟨fun c k hc => fr4 c k (by omega), fun c k _ => (p4.2 c k).trans (fj2 c k)⟩
    rw [p4.1 40 1 (by omega), gI_pI, if_pos ⟨rfl, rfl⟩]
  · simp only [if_pos q] at hK
    have eN : est (pI h2 40 1 0) 1 = vE G := by
      rw [← hE]
      refine est_same (fun k => ?_) (fun k => ?_) (fun i k hi => ?_) (by rw [hE]; exact hn)
      · rw [gI_pI, if_neg (by omega)]; exact fr2 _ _ (by omega)
      · rw [gI_pI, if_neg (by omega)]; exact fr2 _ _ (by omega)
      · rw [gI_pI, if_neg (by omega)]; exact fr2 _ _ (by omega)
    have sim3 : simX (pI h2 40 1 0) (uT G 0 (vB G)) := simX_st (E := vE G) hI hG eN (fun c k hc => by
      rw [gI_pI, if_neg (by omega)]
      exact fr2 c k (by omega)) fj2 (by rw [gI_pI, if_pos ⟨rfl, rfl⟩])
    have e5 : gI (refH (pI h2 40 1 0) (-1002)) 40 2 = nI R.2.1.1 := by
      unfold refH
      rw [gI_pI, if_neg (by omega), gI_pI, if_neg (by omega)]
      exact s2
    rw [e5]
    refine hK _ (simX_ref (okG_wipe hI) sim3 kc2) (frX_tr ?_ (frX_ref _ _))
    exact ⟨fun c k hc => by rw [gI_pI, if_neg (by omega)]; exact fr2 c k (by omega), fun c k _ => fj2 c k⟩
