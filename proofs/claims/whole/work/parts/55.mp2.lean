/-! ===== the model's HEIRS: what changes ===== -/
theorem fr4 {h h' : AH} (hf : frM h h') : gI h' 64 = gI h 64 ∨ True := Or.inr trivial
theorem nz_pos {m : Nat} (hm : m < 2147483648) : (0 < nI m) = ¬ nI m = 0 := by
  rw [lt_ti, ti_0, nI_toInt hm]
  refine propext ⟨fun q z => ?_, fun q => ?_⟩
  · have := congrArg Int32.toInt z
    rw [nI_toInt hm, ti_0] at this
    omega
  · by_cases z : m = 0
    · subst z; exact absurd rfl q
    · omega
theorem live_n {E : ES} (hn : cnt E ≤ 10) (d : Nat) : ∃ m : Nat, m ≤ 10 ∧ liveN E (nI d) = nI m := by
  obtain ⟨m, h1, h2, -⟩ := live_b E d (cnt E) hn
  exact ⟨m, by omega, h2⟩
theorem i_bq (s x m e : Int32) : s + x - m * e = s + (x - e * m) := by
  rw [Int32.sub_eq_add_neg, Int32.add_assoc, ← Int32.sub_eq_add_neg, Int32.mul_comm m e]
theorem giveS_s (d : Nat) (e : Int32) (n : Nat) (E : ES) : forN (n + 1) (giveS d e) E = if eF (forN n (giveS d e) E) n 2 = nI d ∧ ¬ eF (forN n (giveS d e) E) n 6 = 2 then sF (forN n (giveS d e) E) n 4 (eF (forN n (giveS d e) E) n 4 + e) else forN n (giveS d e) E := rfl
theorem em_cc {h h' : AH} {E E' : ES} (hE : estM h = E) (hE' : estM h' = E') (ho : okE E) (hs : cnt E' = cnt E) (h4 : eS E' 4 = eS E 4) : gI h' 64 2 = nI (cnt E) := by
  have := em_4 h'
  rw [hE', h4, ho.1] at this
  exact this.symm
def P_X6_dies : Sp0T := fun as h K => match as with
  | [.ref x, .int v] => x = 64 ∧ ∃ d : Nat, d < 10 ∧ d < cnt (estM h) ∧ v = nI d ∧ okE (estM h) ∧ ∀ h', estM h' = beqE (sF (estM h) d 6 2) d → frM h h' → K none h'
  | _ => False
def S_X6_dies : SpT := lift P_X6_dies
def L_X6_dies_81 : List Item := (81, .aload_n 0, [], nS) :: (82, .getfield 7, [6, 0, 1], nS) :: (85, .iconst 0, [], nS) :: (86, .sipush 9999, [], nS) :: (89, .aload_n 0, [], nS) :: (90, .getfield 7, [6, 0, 1], nS) :: (93, .iconst 0, [], nS) :: (94, .iaload, [], nS) :: (95, .aload_n 0, [], nS) :: (96, .getfield 28, [6, 7, 1], nS) :: (99, .iload_n 1, [], nS) :: (100, .iaload, [], nS) :: (101, .iadd, [], nS) :: (102, .iload_n 2, [], nS) :: (103, .iload_n 3, [], nS) :: (104, .imul, [], nS) :: (105, .isub, [], nS) :: (106, .invokestatic 193, [1], nS) :: (109, .iastore, [], nS) :: (110, .aload_n 0, [], nS) :: (111, .getfield 28, [6, 7, 1], nS) :: (114, .iload_n 1, [], nS) :: (115, .iconst 0, [], nS) :: (116, .iastore, [], nS) :: (117, .return_, [], nS) :: []
def L_X6_dies_75 : List Item := (75, .iinc 4 1, [], nS) :: (78, .goto (-45), [33], nS) :: L_X6_dies_81
def L_X6_dies_33 : List Item := (33, .iload 4, [], nS) :: (35, .aload_n 0, [], nS) :: (36, .getfield 69, [6, 2, 0], nS) :: (39, .if_icmp .ge 42, [81], nS) :: (42, .aload_n 0, [], nS) :: (43, .getfield 22, [6, 5, 1], nS) :: (46, .iload 4, [], nS) :: (48, .iaload, [], nS) :: (49, .iload_n 1, [], nS) :: (50, .if_icmp .ne 25, [75], nS) :: (53, .aload_n 0, [], nS) :: (54, .getfield 34, [6, 9, 1], nS) :: (57, .iload 4, [], nS) :: (59, .iaload, [], nS) :: (60, .iconst 2, [], nS) :: (61, .if_icmp .eq 14, [75], nS) :: (64, .aload_n 0, [], nS) :: (65, .getfield 28, [6, 7, 1], nS) :: (68, .iload 4, [], nS) :: (70, .dup2, [], nS) :: (71, .iaload, [], nS) :: (72, .iload_n 3, [], nS) :: (73, .iadd, [], nS) :: (74, .iastore, [], nS) :: L_X6_dies_75
def L_X6_dies_29 : List Item := (29, .istore_n 3, [], nS) :: (30, .iconst 0, [], nS) :: (31, .istore 4, [], nS) :: (33, .nop, [], nS) :: L_X6_dies_33
def L_X6_dies_21 : List Item := (21, .aload_n 0, [], nS) :: (22, .getfield 28, [6, 7, 1], nS) :: (25, .iload_n 1, [], nS) :: (26, .iaload, [], nS) :: (27, .iload_n 2, [], nS) :: (28, .idiv, [], nS) :: L_X6_dies_29
def L_X6_dies_0 : List Item := (0, .aload_n 0, [], nS) :: (1, .getfield 34, [6, 9, 1], nS) :: (4, .iload_n 1, [], nS) :: (5, .iconst 2, [], nS) :: (6, .iastore, [], nS) :: (7, .aload_n 0, [], nS) :: (8, .iload_n 1, [], nS) :: (9, .invokevirtual 204, [1, 6, 0, 0], S_X6_left) :: (12, .istore_n 2, [], nS) :: (13, .iload_n 2, [], nS) :: (14, .ifCond .ne 7, [21], nS) :: (17, .iconst 0, [], nS) :: (18, .goto 11, [29], nS) :: L_X6_dies_21
def L_X6_dies : List Item := L_X6_dies_0
theorem ok_X6_dies : okB cX6_dies L_X6_dies = true := by decide +kernel
theorem lk_X6_dies (l : Launch) : LKs l RX6 2 false L_X6_dies := ⟨trivial, ⟨_, _, _, rfl, ⟨(RX6, TX6, 26), rfl, by decide, gT_of (List.mem_of_getElem? (i := 927) (by decide +kernel)) rfl⟩, rfl⟩, trivial, trivial, trivial, trivial, trivial, ⟨_, _, _, _, _, _, _, _, _, rfl, c_X6_left l, Or.inl ⟨by decide, yv_X6_left⟩, by decide, gT_of (List.mem_of_getElem? (i := 1188) (by decide +kernel)) rfl⟩, trivial, trivial, trivial, trivial, trivial, trivial, ⟨_, _, _, rfl, ⟨(RX6, TX6, 26), rfl, by decide, gT_of (List.mem_of_getElem? (i := 925) (by decide +kernel)) rfl⟩, rfl⟩, trivial, trivial, trivial, trivial, trivial, trivial, trivial, trivial, trivial, trivial, ⟨_, _, _, rfl, ⟨(RX6, TX6, 26), rfl, by decide, gT_of (List.mem_of_getElem? (i := 920) (by decide +kernel)) rfl⟩, rfl⟩, trivial, trivial, ⟨_, _, _, rfl, ⟨(RX6, TX6, 26), rfl, by decide, gT_of (List.mem_of_getElem? (i := 923) (by decide +kernel)) rfl⟩, rfl⟩, trivial, trivial, trivial, trivial, trivial, ⟨_, _, _, rfl, ⟨(RX6, TX6, 26), rfl, by decide, gT_of (List.mem_of_getElem? (i := 927) (by decide +kernel)) rfl⟩, rfl⟩, trivial, trivial, trivial, trivial, trivial, ⟨_, _, _, rfl, ⟨(RX6, TX6, 26), rfl, by decide, gT_of (List.mem_of_getElem? (i := 925) (by decide +kernel)) rfl⟩, rfl⟩, trivial, trivial, trivial, trivial, trivial, trivial, trivial, trivial, trivial, ⟨_, _, _, rfl, ⟨(RX6, TX6, 26), rfl, by decide, gT_of (List.mem_of_getElem? (i := 918) (by decide +kernel)) rfl⟩, rfl⟩, trivial, trivial, trivial, ⟨_, _, _, rfl, ⟨(RX6, TX6, 26), rfl, by decide, gT_of (List.mem_of_getElem? (i := 918) (by decide +kernel)) rfl⟩, rfl⟩, trivial, trivial, trivial, ⟨_, _, _, rfl, ⟨(RX6, TX6, 26), rfl, by decide, gT_of (List.mem_of_getElem? (i := 925) (by decide +kernel)) rfl⟩, rfl⟩, trivial, trivial, trivial, trivial, trivial, trivial, trivial, Or.inr (Or.inl ⟨rfl, gT_of (List.mem_of_getElem? (i := 1061) (by decide +kernel)) rfl⟩), trivial, trivial, ⟨_, _, _, rfl, ⟨(RX6, TX6, 26), rfl, by decide, gT_of (List.mem_of_getElem? (i := 925) (by decide +kernel)) rfl⟩, rfl⟩, trivial, trivial, trivial, trivial, trivial⟩
theorem b_X6_dies_0 : atL L_X6_dies 0 = L_X6_dies_0 := rfl
theorem b_X6_dies_21 : atL L_X6_dies 21 = L_X6_dies_21 := rfl
theorem b_X6_dies_29 : atL L_X6_dies 29 = L_X6_dies_29 := rfl
theorem b_X6_dies_33 : atL L_X6_dies 33 = L_X6_dies_33 := rfl
theorem b_X6_dies_75 : atL L_X6_dies 75 = L_X6_dies_75 := rfl
theorem b_X6_dies_81 : atL L_X6_dies 81 = L_X6_dies_81 := rfl
theorem a_X6_dies_21 : afw L_X6_dies [33] 21 = L_X6_dies_21 := rfl
theorem a_X6_dies_29 : afw L_X6_dies [33] 29 = L_X6_dies_29 := rfl
theorem a_X6_dies_75 : afw L_X6_dies [33] 75 = L_X6_dies_75 := rfl
theorem a_X6_dies_81 : afw L_X6_dies [33] 81 = L_X6_dies_81 := rfl
theorem a_X6_dies_33 : afw L_X6_dies [33] 33 = [] := rfl
theorem yv_X6_dies : YV yX6_dies cX6_dies 5 none 1 6 := ⟨⟨gT_of (List.mem_of_getElem? (i := 1187) (by decide +kernel)) rfl, gT_of (List.mem_of_getElem? (i := 74) (by decide +kernel)) rfl, ⟨by decide, by decide⟩, by decide +kernel, by decide⟩, gT_of (List.mem_of_getElem? (i := 1186) (by decide +kernel)) rfl, gT_of (List.mem_of_getElem? (i := 46) (by decide +kernel)) rfl, rfl⟩
theorem u_X6_dies_0 : L_X6_dies_0 = (0, .aload_n 0, [], nS) :: (1, .getfield 34, [6, 9, 1], nS) :: (4, .iload_n 1, [], nS) :: (5, .iconst 2, [], nS) :: (6, .iastore, [], nS) :: (7, .aload_n 0, [], nS) :: (8, .iload_n 1, [], nS) :: (9, .invokevirtual 204, [1, 6, 0, 0], S_X6_left) :: (12, .istore_n 2, [], nS) :: (13, .iload_n 2, [], nS) :: (14, .ifCond .ne 7, [21], nS) :: (17, .iconst 0, [], nS) :: (18, .goto 11, [29], nS) :: L_X6_dies_21 := nr rfl
theorem u_X6_dies_21 : L_X6_dies_21 = (21, .aload_n 0, [], nS) :: (22, .getfield 28, [6, 7, 1], nS) :: (25, .iload_n 1, [], nS) :: (26, .iaload, [], nS) :: (27, .iload_n 2, [], nS) :: (28, .idiv, [], nS) :: L_X6_dies_29 := nr rfl
theorem u_X6_dies_29 : L_X6_dies_29 = (29, .istore_n 3, [], nS) :: (30, .iconst 0, [], nS) :: (31, .istore 4, [], nS) :: (33, .nop, [], nS) :: L_X6_dies_33 := nr rfl
theorem u_X6_dies_33 : L_X6_dies_33 = (33, .iload 4, [], nS) :: (35, .aload_n 0, [], nS) :: (36, .getfield 69, [6, 2, 0], nS) :: (39, .if_icmp .ge 42, [81], nS) :: (42, .aload_n 0, [], nS) :: (43, .getfield 22, [6, 5, 1], nS) :: (46, .iload 4, [], nS) :: (48, .iaload, [], nS) :: (49, .iload_n 1, [], nS) :: (50, .if_icmp .ne 25, [75], nS) :: (53, .aload_n 0, [], nS) :: (54, .getfield 34, [6, 9, 1], nS) :: (57, .iload 4, [], nS) :: (59, .iaload, [], nS) :: (60, .iconst 2, [], nS) :: (61, .if_icmp .eq 14, [75], nS) :: (64, .aload_n 0, [], nS) :: (65, .getfield 28, [6, 7, 1], nS) :: (68, .iload 4, [], nS) :: (70, .dup2, [], nS) :: (71, .iaload, [], nS) :: (72, .iload_n 3, [], nS) :: (73, .iadd, [], nS) :: (74, .iastore, [], nS) :: L_X6_dies_75 := nr rfl
theorem u_X6_dies_75 : L_X6_dies_75 = (75, .iinc 4 1, [], nS) :: (78, .goto (-45), [33], nS) :: L_X6_dies_81 := nr rfl
theorem u_X6_dies_81 : L_X6_dies_81 = (81, .aload_n 0, [], nS) :: (82, .getfield 7, [6, 0, 1], nS) :: (85, .iconst 0, [], nS) :: (86, .sipush 9999, [], nS) :: (89, .aload_n 0, [], nS) :: (90, .getfield 7, [6, 0, 1], nS) :: (93, .iconst 0, [], nS) :: (94, .iaload, [], nS) :: (95, .aload_n 0, [], nS) :: (96, .getfield 28, [6, 7, 1], nS) :: (99, .iload_n 1, [], nS) :: (100, .iaload, [], nS) :: (101, .iadd, [], nS) :: (102, .iload_n 2, [], nS) :: (103, .iload_n 3, [], nS) :: (104, .imul, [], nS) :: (105, .isub, [], nS) :: (106, .invokestatic 193, [1], nS) :: (109, .iastore, [], nS) :: (110, .aload_n 0, [], nS) :: (111, .getfield 28, [6, 7, 1], nS) :: (114, .iload_n 1, [], nS) :: (115, .iconst 0, [], nS) :: (116, .iastore, [], nS) :: (117, .return_, [], nS) :: [] := nr rfl
theorem z_X6_dies_0 : atL L_X6_dies 0 = L_X6_dies_0 := nr rfl
theorem z_X6_dies_21 : atL L_X6_dies 21 = L_X6_dies_21 := nr rfl
theorem z_X6_dies_29 : atL L_X6_dies 29 = L_X6_dies_29 := nr rfl
theorem z_X6_dies_33 : atL L_X6_dies 33 = L_X6_dies_33 := nr rfl
theorem z_X6_dies_75 : atL L_X6_dies 75 = L_X6_dies_75 := nr rfl
theorem z_X6_dies_81 : atL L_X6_dies 81 = L_X6_dies_81 := nr rfl
theorem j_X6_dies_21 {G : List Item → SpS → List Value → List Value → AH → Prop} {J : Nat → SpS → List Value → List Value → AH → Prop} {S : SpS} {lv st : List Value} {h : AH} : jmp G J (afw L_X6_dies [33] 21) 21 S lv st h = G L_X6_dies_21 S lv st h := nr rfl
theorem j_X6_dies_29 {G : List Item → SpS → List Value → List Value → AH → Prop} {J : Nat → SpS → List Value → List Value → AH → Prop} {S : SpS} {lv st : List Value} {h : AH} : jmp G J (afw L_X6_dies [33] 29) 29 S lv st h = G L_X6_dies_29 S lv st h := nr rfl
theorem j_X6_dies_75 {G : List Item → SpS → List Value → List Value → AH → Prop} {J : Nat → SpS → List Value → List Value → AH → Prop} {S : SpS} {lv st : List Value} {h : AH} : jmp G J (afw L_X6_dies [33] 75) 75 S lv st h = G L_X6_dies_75 S lv st h := nr rfl
theorem j_X6_dies_81 {G : List Item → SpS → List Value → List Value → AH → Prop} {J : Nat → SpS → List Value → List Value → AH → Prop} {S : SpS} {lv st : List Value} {h : AH} : jmp G J (afw L_X6_dies [33] 81) 81 S lv st h = G L_X6_dies_81 S lv st h := nr rfl
theorem j_X6_dies_33 {G : List Item → SpS → List Value → List Value → AH → Prop} {J : Nat → SpS → List Value → List Value → AH → Prop} {S : SpS} {lv st : List Value} {h : AH} : jmp G J (afw L_X6_dies [33] 33) 33 S lv st h = J 33 S lv st h := nr rfl
theorem e_X6_dies {x : Addr} {v : Int32} {h : AH} {K2 : Option Value → SpS → AH → Prop} : S_X6_dies SH0 [.ref x, .int v] h K2 = (fun (K : Option Value → AH → Prop) => x = 64 ∧ ∃ d : Nat, d < 10 ∧ d < cnt (estM h) ∧ v = nI d ∧ okE (estM h) ∧ ∀ h', estM h' = beqE (sF (estM h) d 6 2) d → frM h h' → K none h') (fun v h' => K2 v SH0 h') := (lift_e P_X6_dies [.ref x, .int v] h K2).trans (nr rfl)
set_option maxRecDepth 100000 in
set_option maxHeartbeats 4000000 in
theorem c_X6_dies (l : Launch) : Ct l yX6_dies cX6_dies 5 none 2 0 0 S_X6_dies := by
  refine Ct0_mk L_X6_dies [33] (by decide +kernel) (by decide) ok_X6_dies (lk_X6_dies l) ?_
  intro as h K hP
  match as, hP with
  | [.ref x, .int v], ⟨hx, d, hd10, hd, hv, ho, hK⟩ =>
  refine ⟨by simp [slotsN, Value.category], fun J hJ => ?_⟩
  subst hx hv
  have hc := em_c ho
  have hn := ho.2.1
  have e1 : estM (pI h 73 d 2) = sF (estM h) d 6 2 := em_pF (k := 6) rfl hd (by omega)
  have f1 : frM h (pI h 73 d 2) := frM_c (frM_rf h) (by omega)
  generalize hh1 : pI h 73 d 2 = h1 at *
  generalize hE1 : sF (estM h) d 6 2 = E1 at *
  have o1 : okE E1 := by rw [← hE1]; exact ho
  have c1 : cnt E1 = cnt (estM h) := by rw [← hE1]; rfl
  have d6 : eF E1 d 6 = 2 := by rw [← hE1, eF_sF, if_pos ⟨rfl, rfl⟩]
  have hc1 : gI h1 64 2 = nI (cnt E1) := by rw [← e1]; exact em_c (e1.symm ▸ o1)
  have g4 : gI h1 71 d = eF E1 d 4 := by rw [← e1]; exact (em_f (h := h1) (i := d) (k := 4) (by rw [e1, c1]; exact hd) (by omega)).symm
  obtain ⟨m, hm, em⟩ := live_n (E := E1) (by rw [c1]; exact hn) d
  have key : ∀ e, e = eachE E1 d → J 33 SH0 [.ref 64, .int (nI d), .int (nI m), .int e, .int (nI 0)] [] h1 := by
    intro e he
    refine dn (P := fun a => ∀ h', estM h' = forN a (giveS d e) E1 → frM h h' → J 33 SH0 [.ref 64, .int (nI d), .int (nI m), .int e, .int (nI a)] [] h') (cnt E1) ?_ (fun a ha ih h' hu hf => ?_) h1 e1 f1
    · intro h' hu hf
      obtain ⟨q1, q2, q3, q4⟩ := giveN_f E1 d e (cnt E1)
      have hc2 : gI h' 64 2 = nI (cnt E1) := by rw [← em_4, hu, q1]; exact o1.1
      have cc : cnt (estM h') = cnt E1 := by rw [em_n, hc2, nI_clamp (by omega)]
      have g0 : gI h' 65 0 = eS E1 0 := by rw [← q1, ← hu]; exact (em_s (by omega)).symm
      have g44 : gI h' 71 d = eF E1 d 4 := by
        have : eF (estM h') d 4 = gI h' 71 d := em_f (by rw [cc, c1]; exact hd) (by omega)
        rw [← this, hu, q4, if_neg (fun z => z.2.2 d6)]
      refine hJ 33 _ _ _ _ ?_
      simp only [z_X6_dies_33, u_X6_dies_0, u_X6_dies_21, u_X6_dies_29, u_X6_dies_33, u_X6_dies_75, u_X6_dies_81, j_X6_dies_21, j_X6_dies_29, j_X6_dies_33, j_X6_dies_75, j_X6_dies_81, ev_aload_n0, ev_getfR, ev_iload_n1, ev_iconst, ev_iastore, ev_callV1, ev_istore_n2, ev_iload_n2, ev_if_ne, ev_goto, ev_iaload, ev_idiv, ev_istore_n3, ev_istore4, ev_nop, ev_iload4, ev_getfI, ev_ic_ge, ev_ic_ne, ev_ic_eq, ev_dup2_int_int, ev_dup2_int_ref, ev_dup2_ref_int, ev_dup2_ref_ref, ev_iload_n3, ev_iadd, ev_iinc4, ev_sipush, ev_imul, ev_isub, ev_min, ev_vret, ↓e_X6_left, vq3_0, vq3_1, vq3_2, cq_0, cq_1, cq_2, capO_z, kb_6, kb_7, kb_8, kb_9, kb_10, kb_12, kb_16, kb_20, kb_21, kb_30, kb_32, kb_40, kb_48, kb_50, kb_57, kb_59, kb_60, kb_63, kb_70, kb_78, kb_81, kb_82, kb_84, kb_97, kb_99, kb_100, kb_101, kb_119, kb_120, kb_122, ki_m1, ki_0, ki_1, ki_2, ki_3, ki_4, ki_5, ki_6, ki_7, ki_8, ki_9, ki_10, ki_11, ki_12, ki_13, ki_14, ki_15, ki_16, ki_17, ki_18, ki_19, ki_20, ki_21, ki_22, ki_23, ki_24, ki_25, ki_26, ki_27, ki_28, ki_29, ki_30, ki_31, ki_32, ki_33, ki_34, ki_35, ki_36, ki_37, ki_38, ki_39, ki_40, ki_41, ki_42, ki_43, ki_44, ki_45, ki_46, ki_47, ki_48, ki_49, ki_50, ki_51, ki_52, ki_53, ki_54, ki_55, ki_56, ki_57, ki_58, ki_59, ki_60, ki_61, ki_62, ki_63, ks_m2000, ks_m1006, ks_m1005, ks_m1004, ks_m1003, ks_m1002, ks_m1000, ks_200, ks_250, ks_255, ks_256, ks_320, ks_660, ks_999, ks_1000, ks_9999, ks_12345, ne_2, ne_10, t_0, t_40, t_41, t_42, t_43, t_44, t_45, t_46, t_47, t_64, t_65, t_66, t_67, t_68, t_69, t_70, t_71, t_72, t_73, t_74, t_75, t_76, t_77, t_78, t_79, t_80, t_81, t_82, r_0_0, r_0_1, r_0_2, r_0_4, r_0_5, r_0_6, r_0_7, r_40_0, r_40_5, r_44_0, r_44_1, r_64_0, r_64_1, r_64_3, r_64_4, r_64_5, r_64_6, r_64_7, r_64_8, r_64_9, r_64_12, r_64_17, r_64_18, r_64_19, r_64_20, r_64_22, r_64_23, r_64_24, r_64_25, t_1, t_14, t_27, t_2, t_15, t_28, Nat.reduceEqDiff, ne_eq, not_false_eq_true, false_implies, true_implies, implies_true, Nat.reduceAdd, Nat.reduceLeDiff, Nat.reduceLT, Nat.reduceMul, or_true, true_or, if_true, if_false, not_true_eq_false, and_self, bF, Nat.reduceBEq, Bool.false_and, Bool.and_false, Bool.or_self, Bool.or_false, Bool.false_or, Bool.false_eq_true, Int.reduceAdd, Bool.and_self, Bool.true_and, Bool.and_true, beq_self_eq_true, not_not_, i10_, i01_, List.length_nil, List.length_cons, true_and, and_true, false_and, and_false, kl_i, kl_a, kl_n, kl_l, tl_s, tl_n, rv_S, pd_0, pd_e, pd_r, pd_i, pd_l, hc2, lpT10 (show cnt E1 ≤ 10 by omega), vp10 hd10, nI_10 hd10, g0, g44]
      rw [i_bq]
      refine hK _ ?_ (frM_c (frM_c hf (by omega)) (by omega))
      rw [em_pF (k := 4) rfl (by rw [em_pS (by omega), cnt_sS _ _ _ (by omega), cc, c1]; exact hd) (by omega), em_pS (by omega), hu]
      unfold beqE capS
      rw [← he, em]
      rfl
    · have hc2 : gI h' 64 2 = nI (cnt E1) := by rw [← em_4, hu, (giveN_f E1 d e a).1]; exact o1.1
      have cc : cnt (estM h') = cnt E1 := by rw [em_n, hc2, nI_clamp (by omega)]
      have ha10 : a < 10 := by omega
      have hg2 : eF (estM h') a 2 = gI h' 69 a := em_f (by rw [cc]; exact ha) (by omega)
      have hg6 : eF (estM h') a 6 = gI h' 73 a := em_f (by rw [cc]; exact ha) (by omega)
      have hg4 : eF (estM h') a 4 = gI h' 71 a := em_f (by rw [cc]; exact ha) (by omega)
      refine hJ 33 _ _ _ _ ?_
      simp only [z_X6_dies_33, u_X6_dies_0, u_X6_dies_21, u_X6_dies_29, u_X6_dies_33, u_X6_dies_75, u_X6_dies_81, j_X6_dies_21, j_X6_dies_29, j_X6_dies_33, j_X6_dies_75, j_X6_dies_81, ev_aload_n0, ev_getfR, ev_iload_n1, ev_iconst, ev_iastore, ev_callV1, ev_istore_n2, ev_iload_n2, ev_if_ne, ev_goto, ev_iaload, ev_idiv, ev_istore_n3, ev_istore4, ev_nop, ev_iload4, ev_getfI, ev_ic_ge, ev_ic_ne, ev_ic_eq, ev_dup2_int_int, ev_dup2_int_ref, ev_dup2_ref_int, ev_dup2_ref_ref, ev_iload_n3, ev_iadd, ev_iinc4, ev_sipush, ev_imul, ev_isub, ev_min, ev_vret, ↓e_X6_left, vq3_0, vq3_1, vq3_2, cq_0, cq_1, cq_2, capO_z, kb_6, kb_7, kb_8, kb_9, kb_10, kb_12, kb_16, kb_20, kb_21, kb_30, kb_32, kb_40, kb_48, kb_50, kb_57, kb_59, kb_60, kb_63, kb_70, kb_78, kb_81, kb_82, kb_84, kb_97, kb_99, kb_100, kb_101, kb_119, kb_120, kb_122, ki_m1, ki_0, ki_1, ki_2, ki_3, ki_4, ki_5, ki_6, ki_7, ki_8, ki_9, ki_10, ki_11, ki_12, ki_13, ki_14, ki_15, ki_16, ki_17, ki_18, ki_19, ki_20, ki_21, ki_22, ki_23, ki_24, ki_25, ki_26, ki_27, ki_28, ki_29, ki_30, ki_31, ki_32, ki_33, ki_34, ki_35, ki_36, ki_37, ki_38, ki_39, ki_40, ki_41, ki_42, ki_43, ki_44, ki_45, ki_46, ki_47, ki_48, ki_49, ki_50, ki_51, ki_52, ki_53, ki_54, ki_55, ki_56, ki_57, ki_58, ki_59, ki_60, ki_61, ki_62, ki_63, ks_m2000, ks_m1006, ks_m1005, ks_m1004, ks_m1003, ks_m1002, ks_m1000, ks_200, ks_250, ks_255, ks_256, ks_320, ks_660, ks_999, ks_1000, ks_9999, ks_12345, ne_2, ne_10, t_0, t_40, t_41, t_42, t_43, t_44, t_45, t_46, t_47, t_64, t_65, t_66, t_67, t_68, t_69, t_70, t_71, t_72, t_73, t_74, t_75, t_76, t_77, t_78, t_79, t_80, t_81, t_82, r_0_0, r_0_1, r_0_2, r_0_4, r_0_5, r_0_6, r_0_7, r_40_0, r_40_5, r_44_0, r_44_1, r_64_0, r_64_1, r_64_3, r_64_4, r_64_5, r_64_6, r_64_7, r_64_8, r_64_9, r_64_12, r_64_17, r_64_18, r_64_19, r_64_20, r_64_22, r_64_23, r_64_24, r_64_25, t_1, t_14, t_27, t_2, t_15, t_28, Nat.reduceEqDiff, ne_eq, not_false_eq_true, false_implies, true_implies, implies_true, Nat.reduceAdd, Nat.reduceLeDiff, Nat.reduceLT, Nat.reduceMul, or_true, true_or, if_true, if_false, not_true_eq_false, and_self, bF, Nat.reduceBEq, Bool.false_and, Bool.and_false, Bool.or_self, Bool.or_false, Bool.false_or, Bool.false_eq_true, Int.reduceAdd, Bool.and_self, Bool.true_and, Bool.and_true, beq_self_eq_true, not_not_, i10_, i01_, List.length_nil, List.length_cons, true_and, and_true, false_and, and_false, kl_i, kl_a, kl_n, kl_l, tl_s, tl_n, rv_S, pd_0, pd_e, pd_r, pd_i, pd_l, hc2, lpF10 ha (show cnt E1 ≤ 10 by omega), vp10 ha10, nI_10 ha10, ← hg2, ← hg6, ← hg4, nI_1]
      rw [giveS_s, ← hu] at ih
      have no : ¬ (eF (estM h') a 2 = nI d ∧ ¬ eF (estM h') a 6 = 2) → J 33 SH0 [.ref 64, .int (nI d), .int (nI m), .int e, .int (nI (a + 1))] [] h' := by
        intro z
        rw [if_neg z] at ih
        exact ih h' rfl hf
      refine ⟨fun q => no (fun z => q z.1), fun q => ⟨fun q2 => no (fun z => z.2 q2), fun q2 => ?_⟩⟩
      rw [if_pos ⟨q, q2⟩] at ih
      exact ih _ (em_pF (k := 4) rfl (by rw [cc]; exact ha) (by omega)) (frM_c hf (by omega))
  refine hJ 0 _ _ _ _ ?_
  simp only [z_X6_dies_0, u_X6_dies_0, u_X6_dies_21, u_X6_dies_29, u_X6_dies_33, u_X6_dies_75, u_X6_dies_81, j_X6_dies_21, j_X6_dies_29, j_X6_dies_33, j_X6_dies_75, j_X6_dies_81, ev_aload_n0, ev_getfR, ev_iload_n1, ev_iconst, ev_iastore, ev_callV1, ev_istore_n2, ev_iload_n2, ev_if_ne, ev_goto, ev_iaload, ev_idiv, ev_istore_n3, ev_istore4, ev_nop, ev_iload4, ev_getfI, ev_ic_ge, ev_ic_ne, ev_ic_eq, ev_dup2_int_int, ev_dup2_int_ref, ev_dup2_ref_int, ev_dup2_ref_ref, ev_iload_n3, ev_iadd, ev_iinc4, ev_sipush, ev_imul, ev_isub, ev_min, ev_vret, ↓e_X6_left, vq3_0, vq3_1, vq3_2, cq_0, cq_1, cq_2, capO_z, kb_6, kb_7, kb_8, kb_9, kb_10, kb_12, kb_16, kb_20, kb_21, kb_30, kb_32, kb_40, kb_48, kb_50, kb_57, kb_59, kb_60, kb_63, kb_70, kb_78, kb_81, kb_82, kb_84, kb_97, kb_99, kb_100, kb_101, kb_119, kb_120, kb_122, ki_m1, ki_0, ki_1, ki_2, ki_3, ki_4, ki_5, ki_6, ki_7, ki_8, ki_9, ki_10, ki_11, ki_12, ki_13, ki_14, ki_15, ki_16, ki_17, ki_18, ki_19, ki_20, ki_21, ki_22, ki_23, ki_24, ki_25, ki_26, ki_27, ki_28, ki_29, ki_30, ki_31, ki_32, ki_33, ki_34, ki_35, ki_36, ki_37, ki_38, ki_39, ki_40, ki_41, ki_42, ki_43, ki_44, ki_45, ki_46, ki_47, ki_48, ki_49, ki_50, ki_51, ki_52, ki_53, ki_54, ki_55, ki_56, ki_57, ki_58, ki_59, ki_60, ki_61, ki_62, ki_63, ks_m2000, ks_m1006, ks_m1005, ks_m1004, ks_m1003, ks_m1002, ks_m1000, ks_200, ks_250, ks_255, ks_256, ks_320, ks_660, ks_999, ks_1000, ks_9999, ks_12345, ne_2, ne_10, t_0, t_40, t_41, t_42, t_43, t_44, t_45, t_46, t_47, t_64, t_65, t_66, t_67, t_68, t_69, t_70, t_71, t_72, t_73, t_74, t_75, t_76, t_77, t_78, t_79, t_80, t_81, t_82, r_0_0, r_0_1, r_0_2, r_0_4, r_0_5, r_0_6, r_0_7, r_40_0, r_40_5, r_44_0, r_44_1, r_64_0, r_64_1, r_64_3, r_64_4, r_64_5, r_64_6, r_64_7, r_64_8, r_64_9, r_64_12, r_64_17, r_64_18, r_64_19, r_64_20, r_64_22, r_64_23, r_64_24, r_64_25, t_1, t_14, t_27, t_2, t_15, t_28, Nat.reduceEqDiff, ne_eq, not_false_eq_true, false_implies, true_implies, implies_true, Nat.reduceAdd, Nat.reduceLeDiff, Nat.reduceLT, Nat.reduceMul, or_true, true_or, if_true, if_false, not_true_eq_false, and_self, bF, Nat.reduceBEq, Bool.false_and, Bool.and_false, Bool.or_self, Bool.or_false, Bool.false_or, Bool.false_eq_true, Int.reduceAdd, Bool.and_self, Bool.true_and, Bool.and_true, beq_self_eq_true, not_not_, i10_, i01_, List.length_nil, List.length_cons, true_and, and_true, false_and, and_false, kl_i, kl_a, kl_n, kl_l, tl_s, tl_n, rv_S, pd_0, pd_e, pd_r, pd_i, pd_l, vp10 hd10, nI_10 hd10, hh1, e1, o1, em, g4]
  have ee : eachE E1 d = if 0 < nI m then eF E1 d 4 / nI m else 0 := by unfold eachE; rw [em]
  refine ⟨fun q => ⟨q, ?_⟩, fun q => ?_⟩
  · rw [if_pos (by rw [nz_pos (by omega)]; exact q)] at ee
    rw [← ee]
    exact key _ rfl
  · rw [if_neg (by rw [nz_pos (by omega)]; exact fun z => z q)] at ee
    exact key 0 ee.symm
theorem passE_1 (E : ES) : (passE E).1 = tickE (dieE (drinkE (comeE E)).1) := by
  unfold passE
  dsimp only
theorem passE_2 (E : ES) : (passE E).2 = (drinkE (comeE E)).2 := by
  unfold passE
  dsimp only
