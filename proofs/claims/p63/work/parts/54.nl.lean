variable {nn : Nat}
/-! ===== constructors: Estate, Model, the class ===== -/
/-- so many new HEIRS, each put into the array a -/
def hlS (a n : Nat) (S : SpS) : SpS := forN n (fun i T => pR (nwS T 1 0 7) a i (nC T + 1)) S
def hlH (b n : Nat) (h : AH) : AH := forN n (fun i h => pI (zA h (b + i)) (b + i) 2 (-1)) h
def jyH (c n : Nat) (h : AH) : AH := forN n (fun i h => pI h c i (nI i + 1)) h
theorem hlS_s (a n : Nat) (S : SpS) : hlS a (n + 1) S = pR (nwS (hlS a n S) 1 0 7) a n (nC (hlS a n S) + 1) := rfl
theorem hlH_s (b n : Nat) (h : AH) : hlH b (n + 1) h = pI (zA (hlH b n h) (b + n)) (b + n) 2 (-1) := rfl
theorem jyH_s (c n : Nat) (h : AH) : jyH c (n + 1) h = pI (jyH c n h) c n (nI n + 1) := rfl
theorem w_hl (a : Nat) (S : SpS) : ∀ n, nC (hlS a n S) = nC S + n
  | 0 => rfl
  | n + 1 => by rw [hlS_s, w_pR, w_nw, w_hl a S n]; rfl
theorem c_hl (a : Nat) (S : SpS) : ∀ n, sC (hlS a n S) = sC S + 7 * n
  | 0 => rfl
  | n + 1 => by rw [hlS_s, c_pR, c_nw, c_hl a S n]; omega
theorem y_hl (a : Nat) (S : SpS) {c : Nat} (hc : c < nC S) : ∀ n, tC (hlS a n S) c = tC S c
  | 0 => rfl
  | n + 1 => by rw [hlS_s, y_pR, y_nw, w_hl, if_neg (by omega), y_hl a S hc n]
theorem q_hl (a : Nat) (S : SpS) {c k : Nat} (hc : c < nC S) (hca : c ≠ a) : ∀ n, rC (hlS a n S) c k = rC S c k
  | 0 => rfl
  | n + 1 => by rw [hlS_s, q_pR, if_neg (by omega), q_nw, w_hl, if_neg (by omega), q_hl a S hc hca n]
def e1S (S : SpS) (x : Nat) : SpS := pR (nwS (pR (nwS S 10 8 8) x 5 (nC S + 1)) 12 10 10) x 6 (nC S + 1 + 1)
def e1H (S : SpS) (x : Nat) (h : AH) : AH := zA (zA (pI (pI h x 0 660) x 3 1) (nC S)) (nC S + 1)
def esS (S : SpS) (x : Nat) : SpS := hlS (nC S + 1) 10 (e1S S x)
def esH (S : SpS) (x : Nat) (h : AH) : AH := hlH (nC S + 2) 10 (jyH (nC S) 8 (e1H S x h))
theorem w_es (S : SpS) (x : Nat) : nC (esS S x) = nC S + 12 := w_hl _ _ 10
theorem c_es (S : SpS) (x : Nat) : sC (esS S x) = sC S + 88 := c_hl _ _ 10
theorem y_es (S : SpS) (x : Nat) {c : Nat} (hc : c < nC S) : tC (esS S x) c = tC S c := by
  unfold esS
  rw [y_hl _ _ (show c < nC (e1S S x) from Nat.lt_succ_of_lt (Nat.lt_succ_of_lt hc))]
  unfold e1S
  rw [y_pR, y_nw, w_pR, w_nw, if_neg (by omega), y_pR, y_nw, if_neg (by omega)]
theorem q_es (S : SpS) (x : Nat) {c k : Nat} (hc : c < nC S) (hx : c ≠ x) : rC (esS S x) c k = rC S c k := by
  unfold esS
  rw [q_hl _ _ (show c < nC (e1S S x) from Nat.lt_succ_of_lt (Nat.lt_succ_of_lt hc)) (by omega)]
  unfold e1S
  rw [q_pR, if_neg (by omega), q_nw, w_pR, w_nw, if_neg (by omega), q_pR, if_neg (by omega), q_nw, if_neg (by omega)]
def S_X0_init : SpT := fun S as h K => match as with
  | [.ref x] => (tC S x).1 = 0 ∧ x < nC S ∧ nC S + 12 ≤ 100000 ∧ K none (esS S x) (esH S x h)
  | _ => False
theorem e_X0_init {S : SpS} {x : Addr} {h : AH} {K : Option Value → SpS → AH → Prop} : S_X0_init S [.ref x] h K = ((tC S x).1 = 0 ∧ x < nC S ∧ nC S + 12 ≤ 100000 ∧ K none (esS S x) (esH S x h)) := nr rfl
def L_X0_init_83 : List Item := (83, .return_, [], nS) :: []
def L_X0_init_58 : List Item := (58, .iload_n 1, [], nS) :: (59, .bipush 10, [], nS) :: (61, .if_icmp .ge 22, [83], nS) :: (64, .aload_n 0, [], nS) :: (65, .getfield 24, [0, 6, 1], nS) :: (68, .iload_n 1, [], nS) :: (69, .new 22, [1], nS) :: (72, .dup, [], nS) :: (73, .invokespecial 28, [0, 0, 0], S_X1_init) :: (76, .aastore, [], nS) :: (77, .iinc 1 1, [], nS) :: (80, .goto (-22), [58], nS) :: L_X0_init_83
def L_X0_init_56 : List Item := (56, .iconst 0, [], nS) :: (57, .istore_n 1, [], nS) :: (58, .nop, [], nS) :: L_X0_init_58
def L_X0_init_35 : List Item := (35, .iload_n 1, [], nS) :: (36, .bipush 8, [], nS) :: (38, .if_icmp .ge 18, [56], nS) :: (41, .aload_n 0, [], nS) :: (42, .getfield 18, [0, 5, 1], nS) :: (45, .iload_n 1, [], nS) :: (46, .iload_n 1, [], nS) :: (47, .iconst 1, [], nS) :: (48, .iadd, [], nS) :: (49, .iastore, [], nS) :: (50, .iinc 1 1, [], nS) :: (53, .goto (-18), [35], nS) :: L_X0_init_56
def L_X0_init_0 : List Item := (0, .aload_n 0, [], nS) :: (1, .invokespecial 3, [], nS) :: (4, .aload_n 0, [], nS) :: (5, .sipush 660, [], nS) :: (8, .putfield 9, [0, 0, 0], nS) :: (11, .aload_n 0, [], nS) :: (12, .iconst 1, [], nS) :: (13, .putfield 15, [0, 3, 0], nS) :: (16, .aload_n 0, [], nS) :: (17, .bipush 8, [], nS) :: (19, .newarray .int, [], nS) :: (21, .putfield 18, [0, 5, 1], nS) :: (24, .aload_n 0, [], nS) :: (25, .bipush 10, [], nS) :: (27, .anewarray 22, [12], nS) :: (30, .putfield 24, [0, 6, 1], nS) :: (33, .iconst 0, [], nS) :: (34, .istore_n 1, [], nS) :: (35, .nop, [], nS) :: L_X0_init_35
def L_X0_init : List Item := L_X0_init_0
theorem ok_X0_init : okB cX0_init L_X0_init = true := by decide +kernel
theorem lk_X0_init (l : Launch) : LKs l RX0 2 true L_X0_init := ⟨trivial, Or.inl ⟨rfl, gT_of (List.mem_of_getElem? (i := 52) (by decide +kernel)) rfl⟩, trivial, trivial, ⟨_, _, _, rfl, ⟨(RX0, TX0, 7), rfl, by decide, gT_of (List.mem_of_getElem? (i := 95) (by decide +kernel)) rfl⟩, rfl, fun q => absurd rfl q⟩, trivial, trivial, ⟨_, _, _, rfl, ⟨(RX0, TX0, 7), rfl, by decide, gT_of (List.mem_of_getElem? (i := 104) (by decide +kernel)) rfl⟩, rfl, fun q => absurd rfl q⟩, trivial, trivial, trivial, ⟨_, _, _, rfl, ⟨(RX0, TX0, 7), rfl, by decide, gT_of (List.mem_of_getElem? (i := 109) (by decide +kernel)) rfl⟩, rfl, fun _ => ⟨rfl, rfl⟩⟩, trivial, trivial, ⟨_, RX1, rfl, Or.inl ⟨rfl, rfl⟩, gT_of (List.mem_of_getElem? (i := 53) (by decide +kernel)) rfl⟩, ⟨_, _, _, rfl, ⟨(RX0, TX0, 7), rfl, by decide, gT_of (List.mem_of_getElem? (i := 112) (by decide +kernel)) rfl⟩, rfl, fun _ => ⟨rfl, rfl⟩⟩, trivial, trivial, trivial, trivial, trivial, trivial, trivial, ⟨_, _, _, rfl, ⟨(RX0, TX0, 7), rfl, by decide, gT_of (List.mem_of_getElem? (i := 109) (by decide +kernel)) rfl⟩, rfl⟩, trivial, trivial, trivial, trivial, trivial, trivial, trivial, trivial, trivial, trivial, trivial, trivial, trivial, trivial, ⟨_, _, _, rfl, ⟨(RX0, TX0, 7), rfl, by decide, gT_of (List.mem_of_getElem? (i := 112) (by decide +kernel)) rfl⟩, rfl⟩, trivial, ⟨_, (RX1, TX1, 7), rfl, rfl, gT_of (List.mem_of_getElem? (i := 53) (by decide +kernel)) rfl, gT_of (List.mem_of_getElem? (i := 55) (by decide +kernel)) rfl, gT_of (List.mem_of_getElem? (i := 28) (by decide +kernel)) rfl⟩, trivial, Or.inr ⟨_, _, _, _, _, _, _, rfl, c_X1_init l, yv_X1_init, by decide, gT_of (List.mem_of_getElem? (i := 56) (by decide +kernel)) rfl⟩, trivial, trivial, trivial, trivial, trivial⟩
theorem b_X0_init_0 : atL L_X0_init 0 = L_X0_init_0 := rfl
theorem b_X0_init_35 : atL L_X0_init 35 = L_X0_init_35 := rfl
theorem b_X0_init_56 : atL L_X0_init 56 = L_X0_init_56 := rfl
theorem b_X0_init_58 : atL L_X0_init 58 = L_X0_init_58 := rfl
theorem b_X0_init_83 : atL L_X0_init 83 = L_X0_init_83 := rfl
theorem a_X0_init_56 : afw L_X0_init [35, 58] 56 = L_X0_init_56 := rfl
theorem a_X0_init_83 : afw L_X0_init [35, 58] 83 = L_X0_init_83 := rfl
theorem a_X0_init_35 : afw L_X0_init [35, 58] 35 = [] := rfl
theorem a_X0_init_58 : afw L_X0_init [35, 58] 58 = [] := rfl
theorem yv_X0_init : YI yX0_init cX0_init 2 0 := ⟨⟨gT_of (List.mem_of_getElem? (i := 51) (by decide +kernel)) rfl, gT_of (List.mem_of_getElem? (i := 27) (by decide +kernel)) rfl, ⟨by decide, by decide⟩, by decide +kernel, by decide⟩, gT_of (List.mem_of_getElem? (i := 50) (by decide +kernel)) rfl, rfl⟩
theorem u_X0_init_0 : L_X0_init_0 = (0, .aload_n 0, [], nS) :: (1, .invokespecial 3, [], nS) :: (4, .aload_n 0, [], nS) :: (5, .sipush 660, [], nS) :: (8, .putfield 9, [0, 0, 0], nS) :: (11, .aload_n 0, [], nS) :: (12, .iconst 1, [], nS) :: (13, .putfield 15, [0, 3, 0], nS) :: (16, .aload_n 0, [], nS) :: (17, .bipush 8, [], nS) :: (19, .newarray .int, [], nS) :: (21, .putfield 18, [0, 5, 1], nS) :: (24, .aload_n 0, [], nS) :: (25, .bipush 10, [], nS) :: (27, .anewarray 22, [12], nS) :: (30, .putfield 24, [0, 6, 1], nS) :: (33, .iconst 0, [], nS) :: (34, .istore_n 1, [], nS) :: (35, .nop, [], nS) :: L_X0_init_35 := nr rfl
theorem u_X0_init_35 : L_X0_init_35 = (35, .iload_n 1, [], nS) :: (36, .bipush 8, [], nS) :: (38, .if_icmp .ge 18, [56], nS) :: (41, .aload_n 0, [], nS) :: (42, .getfield 18, [0, 5, 1], nS) :: (45, .iload_n 1, [], nS) :: (46, .iload_n 1, [], nS) :: (47, .iconst 1, [], nS) :: (48, .iadd, [], nS) :: (49, .iastore, [], nS) :: (50, .iinc 1 1, [], nS) :: (53, .goto (-18), [35], nS) :: L_X0_init_56 := nr rfl
theorem u_X0_init_56 : L_X0_init_56 = (56, .iconst 0, [], nS) :: (57, .istore_n 1, [], nS) :: (58, .nop, [], nS) :: L_X0_init_58 := nr rfl
theorem u_X0_init_58 : L_X0_init_58 = (58, .iload_n 1, [], nS) :: (59, .bipush 10, [], nS) :: (61, .if_icmp .ge 22, [83], nS) :: (64, .aload_n 0, [], nS) :: (65, .getfield 24, [0, 6, 1], nS) :: (68, .iload_n 1, [], nS) :: (69, .new 22, [1], nS) :: (72, .dup, [], nS) :: (73, .invokespecial 28, [0, 0, 0], S_X1_init) :: (76, .aastore, [], nS) :: (77, .iinc 1 1, [], nS) :: (80, .goto (-22), [58], nS) :: L_X0_init_83 := nr rfl
theorem u_X0_init_83 : L_X0_init_83 = (83, .return_, [], nS) :: [] := nr rfl
theorem z_X0_init_0 : atL L_X0_init 0 = L_X0_init_0 := nr rfl
theorem z_X0_init_35 : atL L_X0_init 35 = L_X0_init_35 := nr rfl
theorem z_X0_init_56 : atL L_X0_init 56 = L_X0_init_56 := nr rfl
theorem z_X0_init_58 : atL L_X0_init 58 = L_X0_init_58 := nr rfl
theorem z_X0_init_83 : atL L_X0_init 83 = L_X0_init_83 := nr rfl
theorem j_X0_init_56 {G : List Item → SpS → List Value → List Value → AH → Prop} {J : Nat → SpS → List Value → List Value → AH → Prop} {S : SpS} {lv st : List Value} {h : AH} : jmp G J (afw L_X0_init [35, 58] 56) 56 S lv st h = G L_X0_init_56 S lv st h := nr rfl
theorem j_X0_init_83 {G : List Item → SpS → List Value → List Value → AH → Prop} {J : Nat → SpS → List Value → List Value → AH → Prop} {S : SpS} {lv st : List Value} {h : AH} : jmp G J (afw L_X0_init [35, 58] 83) 83 S lv st h = G L_X0_init_83 S lv st h := nr rfl
theorem j_X0_init_35 {G : List Item → SpS → List Value → List Value → AH → Prop} {J : Nat → SpS → List Value → List Value → AH → Prop} {S : SpS} {lv st : List Value} {h : AH} : jmp G J (afw L_X0_init [35, 58] 35) 35 S lv st h = J 35 S lv st h := nr rfl
theorem j_X0_init_58 {G : List Item → SpS → List Value → List Value → AH → Prop} {J : Nat → SpS → List Value → List Value → AH → Prop} {S : SpS} {lv st : List Value} {h : AH} : jmp G J (afw L_X0_init [35, 58] 58) 58 S lv st h = J 58 S lv st h := nr rfl
set_option maxRecDepth 100000 in
set_option maxHeartbeats 4000000 in
theorem c_X0_init (l : Launch) : Ct l yX0_init cX0_init 2 none 2 12 88 S_X0_init := by
  refine Ct_mk L_X0_init [35, 58] (by decide +kernel) (by decide) (fun _ => rfl) ok_X0_init (lk_X0_init l) ?_
  intro S as h K hP
  match as, hP with
  | [.ref x], ⟨h1, h2, h3, hK⟩ =>
  refine ⟨by simp [slotsN, Value.category], fun J hJ => ?_⟩
  have e0 : (x = nC S) = False := eq_false (Nat.ne_of_lt h2)
  have e1 : (x = nC S + 1) = False := eq_false (Nat.ne_of_lt (Nat.lt_succ_of_lt h2))
  unfold esS esH at hK
  have key : J 35 (e1S S x) [.ref x, .int 0] [] (e1H S x h) := by
    have t1 : (tC (e1S S x) x).1 = 0 := by
      unfold e1S
      rw [y_pR, y_nw, w_pR, w_nw, if_neg (Nat.ne_of_lt (Nat.lt_succ_of_lt h2)), y_pR, y_nw, if_neg (Nat.ne_of_lt h2)]
      exact h1
    have t2 : tC (e1S S x) (nC S) = (10, 8) := by
      unfold e1S
      rw [y_pR, y_nw, w_pR, w_nw, if_neg (by omega), y_pR, y_nw, if_pos rfl]
    have t3 : tC (e1S S x) (nC S + 1) = (12, 10) := by
      unfold e1S
      rw [y_pR, y_nw, w_pR, w_nw, if_pos rfl]
    have r1 : rC (e1S S x) x 5 = nC S + 1 := by
      unfold e1S
      rw [q_pR, if_neg (by omega), q_nw, w_pR, w_nw, if_neg (Nat.ne_of_lt (Nat.lt_succ_of_lt h2)), q_pR, if_pos ⟨rfl, rfl⟩]
    have r2 : rC (e1S S x) x 6 = nC S + 1 + 1 := by
      unfold e1S
      rw [q_pR, if_pos ⟨rfl, rfl⟩]
    have w1 : nC (e1S S x) = nC S + 2 := rfl
    have c1 : sC (e1S S x) = sC S + 18 := rfl
    generalize e1S S x = S1 at *
    generalize e1H S x h = h1' at *
    refine dn (P := fun i => J 35 S1 [.ref x, .int (nI i)] [] (jyH (nC S) i h1')) 8 ?_ (fun i hi ih => ?_)
    · refine hJ 35 _ _ _ _ ?_
      simp only [z_X0_init_35, u_X0_init_0, u_X0_init_35, u_X0_init_56, u_X0_init_58, u_X0_init_83, j_X0_init_35, j_X0_init_56, j_X0_init_58, j_X0_init_83, ev_aload_n0, ec_obj, ev_sipush, ev_putfI, ev_iconst, ev_bipush, ec_newI, ec_newJ, ec_putfR, ec_anew, ev_istore_n1, ev_nop, ev_iload_n1, ev_ic_ge, ev_getfR, ev_iadd, ev_iastore, ev_iinc1, ev_goto, ec_new, ev_dup_ref, ec_callI, ec_aast, ec_vret, e_X1_init, capO_z, kb_6, kb_11, kb_13, kb_15, kb_17, kb_18, kb_19, kb_23, kb_24, kb_25, kb_26, kb_29, kb_31, kb_35, kb_37, kb_41, kb_43, kb_44, kb_61, kb_75, kb_104, kb_7, kb_8, kb_9, kb_10, kb_12, kb_16, kb_20, kb_21, kb_30, kb_32, kb_40, kb_48, kb_50, kb_57, kb_59, kb_60, kb_63, kb_70, kb_78, kb_81, kb_82, kb_84, kb_97, kb_99, kb_100, kb_101, kb_119, kb_120, kb_122, ki_m1, ki_0, ki_1, ki_2, ki_3, ki_4, ki_5, ki_6, ki_7, ki_8, ki_9, ki_10, ki_11, ki_12, ki_13, ki_14, ki_15, ki_16, ki_17, ki_18, ki_19, ki_20, ki_21, ki_22, ki_23, ki_24, ki_25, ki_26, ki_27, ki_28, ki_29, ki_30, ki_31, ki_32, ki_33, ki_34, ki_35, ki_36, ki_37, ki_38, ki_39, ki_40, ki_41, ki_42, ki_43, ki_44, ki_45, ki_46, ki_47, ki_48, ki_49, ki_50, ki_51, ki_52, ki_53, ki_54, ki_55, ki_56, ki_57, ki_58, ki_59, ki_60, ki_61, ki_62, ki_63, ks_m2000, ks_m1006, ks_m1005, ks_m1004, ks_m1003, ks_m1002, ks_m1000, ks_200, ks_201, ks_300, ks_720, ks_9000, ks_10000, ks_250, ks_255, ks_256, ks_320, ks_660, ks_999, ks_1000, ks_9999, ks_12345, ne_2, ne_10, t_0, t_40, t_41, t_42, t_43, t_44, t_45, t_46, t_47, r_0_0, r_0_1, r_0_2, r_0_4, r_0_5, r_0_6, r_0_7, r_40_0, r_40_5, r_44_0, r_44_1, t_1, t_14, t_27, t_2, t_15, t_28, t_64, Nat.reduceEqDiff, ne_eq, not_false_eq_true, false_implies, true_implies, implies_true, Nat.reduceAdd, Nat.reduceLeDiff, Nat.reduceLT, Nat.reduceMul, or_true, true_or, if_true, if_false, not_true_eq_false, and_self, bF, Nat.reduceBEq, Bool.false_and, Bool.and_false, Bool.or_self, Bool.or_false, Bool.false_or, Bool.false_eq_true, Int.reduceAdd, Bool.and_self, Bool.true_and, Bool.and_true, beq_self_eq_true, not_not_, i10_, i01_, List.length_nil, List.length_cons, true_and, and_true, false_and, and_false, kl_i, kl_a, kl_n, kl_l, tl_s, tl_n, rv_S, pd_0, pd_e, pd_r, pd_i, pd_l, w_nw, w_pR, c_nw, c_pR, y_nw, y_pR, q_nw, q_pR, show ((8 : Int32) ≤ nI 8) = True by decide]
      have hx1 : x < nC S1 := by rw [w1]; exact Nat.lt_succ_of_lt (Nat.lt_succ_of_lt h2)
      have q := y_hl (nC S + 1) S1 (c := x) hx1
      have q2 := y_hl (nC S + 1) S1 (c := nC S + 1) (by omega)
      have q3 := q_hl (nC S + 1) S1 (c := x) (k := 6) hx1 (by show ¬ x = nC S + 1; rw [e1]; exact fun z => z)
      refine dn (P := fun i => J 58 (hlS (nC S + 1) i S1) [.ref x, .int (nI i)] [] (hlH (nC S + 2) i (jyH (nC S) 8 h1'))) 10 ?_ (fun i hi ih => ?_)
      · refine hJ 58 _ _ _ _ ?_
        simp only [z_X0_init_58, u_X0_init_0, u_X0_init_35, u_X0_init_56, u_X0_init_58, u_X0_init_83, j_X0_init_35, j_X0_init_56, j_X0_init_58, j_X0_init_83, ev_aload_n0, ec_obj, ev_sipush, ev_putfI, ev_iconst, ev_bipush, ec_newI, ec_newJ, ec_putfR, ec_anew, ev_istore_n1, ev_nop, ev_iload_n1, ev_ic_ge, ev_getfR, ev_iadd, ev_iastore, ev_iinc1, ev_goto, ec_new, ev_dup_ref, ec_callI, ec_aast, ec_vret, e_X1_init, capO_z, kb_6, kb_11, kb_13, kb_15, kb_17, kb_18, kb_19, kb_23, kb_24, kb_25, kb_26, kb_29, kb_31, kb_35, kb_37, kb_41, kb_43, kb_44, kb_61, kb_75, kb_104, kb_7, kb_8, kb_9, kb_10, kb_12, kb_16, kb_20, kb_21, kb_30, kb_32, kb_40, kb_48, kb_50, kb_57, kb_59, kb_60, kb_63, kb_70, kb_78, kb_81, kb_82, kb_84, kb_97, kb_99, kb_100, kb_101, kb_119, kb_120, kb_122, ki_m1, ki_0, ki_1, ki_2, ki_3, ki_4, ki_5, ki_6, ki_7, ki_8, ki_9, ki_10, ki_11, ki_12, ki_13, ki_14, ki_15, ki_16, ki_17, ki_18, ki_19, ki_20, ki_21, ki_22, ki_23, ki_24, ki_25, ki_26, ki_27, ki_28, ki_29, ki_30, ki_31, ki_32, ki_33, ki_34, ki_35, ki_36, ki_37, ki_38, ki_39, ki_40, ki_41, ki_42, ki_43, ki_44, ki_45, ki_46, ki_47, ki_48, ki_49, ki_50, ki_51, ki_52, ki_53, ki_54, ki_55, ki_56, ki_57, ki_58, ki_59, ki_60, ki_61, ki_62, ki_63, ks_m2000, ks_m1006, ks_m1005, ks_m1004, ks_m1003, ks_m1002, ks_m1000, ks_200, ks_201, ks_300, ks_720, ks_9000, ks_10000, ks_250, ks_255, ks_256, ks_320, ks_660, ks_999, ks_1000, ks_9999, ks_12345, ne_2, ne_10, t_0, t_40, t_41, t_42, t_43, t_44, t_45, t_46, t_47, r_0_0, r_0_1, r_0_2, r_0_4, r_0_5, r_0_6, r_0_7, r_40_0, r_40_5, r_44_0, r_44_1, t_1, t_14, t_27, t_2, t_15, t_28, t_64, Nat.reduceEqDiff, ne_eq, not_false_eq_true, false_implies, true_implies, implies_true, Nat.reduceAdd, Nat.reduceLeDiff, Nat.reduceLT, Nat.reduceMul, or_true, true_or, if_true, if_false, not_true_eq_false, and_self, bF, Nat.reduceBEq, Bool.false_and, Bool.and_false, Bool.or_self, Bool.or_false, Bool.false_or, Bool.false_eq_true, Int.reduceAdd, Bool.and_self, Bool.true_and, Bool.and_true, beq_self_eq_true, not_not_, i10_, i01_, List.length_nil, List.length_cons, true_and, and_true, false_and, and_false, kl_i, kl_a, kl_n, kl_l, tl_s, tl_n, rv_S, pd_0, pd_e, pd_r, pd_i, pd_l, w_nw, w_pR, c_nw, c_pR, y_nw, y_pR, q_nw, q_pR, show ((10 : Int32) ≤ nI 10) = True by decide]
        have a1 := w_hl (nC S + 1) S1 10
        have a2 := c_hl (nC S + 1) S1 10
        exact ⟨by omega, by omega, hK⟩
      · have a1 := w_hl (nC S + 1) S1 i
        have a2 := c_hl (nC S + 1) S1 i
        have q := q i
        have q2 := q2 i
        have q3 := q3 i
        rw [hlS_s, hlH_s] at ih
        rw [a1, w1] at ih
        generalize hlS (nC S + 1) i S1 = T at *
        generalize hlH (nC S + 2) i (jyH (nC S) 8 h1') = hT at *
        have b1 : nC T = nC S + 2 + i := by omega
        have f1 : (nC S + 1 = nC S + 2 + i) = False := eq_false (by omega)
        refine hJ 58 _ _ _ _ ?_
        simp only [z_X0_init_58, u_X0_init_0, u_X0_init_35, u_X0_init_56, u_X0_init_58, u_X0_init_83, j_X0_init_35, j_X0_init_56, j_X0_init_58, j_X0_init_83, ev_aload_n0, ec_obj, ev_sipush, ev_putfI, ev_iconst, ev_bipush, ec_newI, ec_newJ, ec_putfR, ec_anew, ev_istore_n1, ev_nop, ev_iload_n1, ev_ic_ge, ev_getfR, ev_iadd, ev_iastore, ev_iinc1, ev_goto, ec_new, ev_dup_ref, ec_callI, ec_aast, ec_vret, e_X1_init, capO_z, kb_6, kb_11, kb_13, kb_15, kb_17, kb_18, kb_19, kb_23, kb_24, kb_25, kb_26, kb_29, kb_31, kb_35, kb_37, kb_41, kb_43, kb_44, kb_61, kb_75, kb_104, kb_7, kb_8, kb_9, kb_10, kb_12, kb_16, kb_20, kb_21, kb_30, kb_32, kb_40, kb_48, kb_50, kb_57, kb_59, kb_60, kb_63, kb_70, kb_78, kb_81, kb_82, kb_84, kb_97, kb_99, kb_100, kb_101, kb_119, kb_120, kb_122, ki_m1, ki_0, ki_1, ki_2, ki_3, ki_4, ki_5, ki_6, ki_7, ki_8, ki_9, ki_10, ki_11, ki_12, ki_13, ki_14, ki_15, ki_16, ki_17, ki_18, ki_19, ki_20, ki_21, ki_22, ki_23, ki_24, ki_25, ki_26, ki_27, ki_28, ki_29, ki_30, ki_31, ki_32, ki_33, ki_34, ki_35, ki_36, ki_37, ki_38, ki_39, ki_40, ki_41, ki_42, ki_43, ki_44, ki_45, ki_46, ki_47, ki_48, ki_49, ki_50, ki_51, ki_52, ki_53, ki_54, ki_55, ki_56, ki_57, ki_58, ki_59, ki_60, ki_61, ki_62, ki_63, ks_m2000, ks_m1006, ks_m1005, ks_m1004, ks_m1003, ks_m1002, ks_m1000, ks_200, ks_201, ks_300, ks_720, ks_9000, ks_10000, ks_250, ks_255, ks_256, ks_320, ks_660, ks_999, ks_1000, ks_9999, ks_12345, ne_2, ne_10, t_0, t_40, t_41, t_42, t_43, t_44, t_45, t_46, t_47, r_0_0, r_0_1, r_0_2, r_0_4, r_0_5, r_0_6, r_0_7, r_40_0, r_40_5, r_44_0, r_44_1, t_1, t_14, t_27, t_2, t_15, t_28, t_64, Nat.reduceEqDiff, ne_eq, not_false_eq_true, false_implies, true_implies, implies_true, Nat.reduceAdd, Nat.reduceLeDiff, Nat.reduceLT, Nat.reduceMul, or_true, true_or, if_true, if_false, not_true_eq_false, and_self, bF, Nat.reduceBEq, Bool.false_and, Bool.and_false, Bool.or_self, Bool.or_false, Bool.false_or, Bool.false_eq_true, Int.reduceAdd, Bool.and_self, Bool.true_and, Bool.and_true, beq_self_eq_true, not_not_, i10_, i01_, List.length_nil, List.length_cons, true_and, and_true, false_and, and_false, kl_i, kl_a, kl_n, kl_l, tl_s, tl_n, rv_S, pd_0, pd_e, pd_r, pd_i, pd_l, w_nw, w_pR, c_nw, c_pR, y_nw, y_pR, q_nw, q_pR, show ((10 : Int32) ≤ nI i) = False from lpF (n := 10) hi (by omega), q, t1, q3, r2, b1, f1, q2, t3, vp10 hi, nI_10 hi, nI_1, show nF 1 = 7 from rfl]
        repeat refine And.intro (by omega) ?_
        exact ih
    · rw [jyH_s] at ih
      refine hJ 35 _ _ _ _ ?_
      simp only [z_X0_init_35, u_X0_init_0, u_X0_init_35, u_X0_init_56, u_X0_init_58, u_X0_init_83, j_X0_init_35, j_X0_init_56, j_X0_init_58, j_X0_init_83, ev_aload_n0, ec_obj, ev_sipush, ev_putfI, ev_iconst, ev_bipush, ec_newI, ec_newJ, ec_putfR, ec_anew, ev_istore_n1, ev_nop, ev_iload_n1, ev_ic_ge, ev_getfR, ev_iadd, ev_iastore, ev_iinc1, ev_goto, ec_new, ev_dup_ref, ec_callI, ec_aast, ec_vret, e_X1_init, capO_z, kb_6, kb_11, kb_13, kb_15, kb_17, kb_18, kb_19, kb_23, kb_24, kb_25, kb_26, kb_29, kb_31, kb_35, kb_37, kb_41, kb_43, kb_44, kb_61, kb_75, kb_104, kb_7, kb_8, kb_9, kb_10, kb_12, kb_16, kb_20, kb_21, kb_30, kb_32, kb_40, kb_48, kb_50, kb_57, kb_59, kb_60, kb_63, kb_70, kb_78, kb_81, kb_82, kb_84, kb_97, kb_99, kb_100, kb_101, kb_119, kb_120, kb_122, ki_m1, ki_0, ki_1, ki_2, ki_3, ki_4, ki_5, ki_6, ki_7, ki_8, ki_9, ki_10, ki_11, ki_12, ki_13, ki_14, ki_15, ki_16, ki_17, ki_18, ki_19, ki_20, ki_21, ki_22, ki_23, ki_24, ki_25, ki_26, ki_27, ki_28, ki_29, ki_30, ki_31, ki_32, ki_33, ki_34, ki_35, ki_36, ki_37, ki_38, ki_39, ki_40, ki_41, ki_42, ki_43, ki_44, ki_45, ki_46, ki_47, ki_48, ki_49, ki_50, ki_51, ki_52, ki_53, ki_54, ki_55, ki_56, ki_57, ki_58, ki_59, ki_60, ki_61, ki_62, ki_63, ks_m2000, ks_m1006, ks_m1005, ks_m1004, ks_m1003, ks_m1002, ks_m1000, ks_200, ks_201, ks_300, ks_720, ks_9000, ks_10000, ks_250, ks_255, ks_256, ks_320, ks_660, ks_999, ks_1000, ks_9999, ks_12345, ne_2, ne_10, t_0, t_40, t_41, t_42, t_43, t_44, t_45, t_46, t_47, r_0_0, r_0_1, r_0_2, r_0_4, r_0_5, r_0_6, r_0_7, r_40_0, r_40_5, r_44_0, r_44_1, t_1, t_14, t_27, t_2, t_15, t_28, t_64, Nat.reduceEqDiff, ne_eq, not_false_eq_true, false_implies, true_implies, implies_true, Nat.reduceAdd, Nat.reduceLeDiff, Nat.reduceLT, Nat.reduceMul, or_true, true_or, if_true, if_false, not_true_eq_false, and_self, bF, Nat.reduceBEq, Bool.false_and, Bool.and_false, Bool.or_self, Bool.or_false, Bool.false_or, Bool.false_eq_true, Int.reduceAdd, Bool.and_self, Bool.true_and, Bool.and_true, beq_self_eq_true, not_not_, i10_, i01_, List.length_nil, List.length_cons, true_and, and_true, false_and, and_false, kl_i, kl_a, kl_n, kl_l, tl_s, tl_n, rv_S, pd_0, pd_e, pd_r, pd_i, pd_l, w_nw, w_pR, c_nw, c_pR, y_nw, y_pR, q_nw, q_pR, show ((8 : Int32) ≤ nI i) = False from lp8F hi, t1, r1, t2, vp8 hi, nI_clamp (show i < 2 ^ 31 by omega), nI_1]
      rw [nI_1] at ih
      exact ih
  unfold e1S e1H at key
  refine hJ 0 _ _ _ _ ?_
  simp only [z_X0_init_0, u_X0_init_0, u_X0_init_35, u_X0_init_56, u_X0_init_58, u_X0_init_83, j_X0_init_35, j_X0_init_56, j_X0_init_58, j_X0_init_83, ev_aload_n0, ec_obj, ev_sipush, ev_putfI, ev_iconst, ev_bipush, ec_newI, ec_newJ, ec_putfR, ec_anew, ev_istore_n1, ev_nop, ev_iload_n1, ev_ic_ge, ev_getfR, ev_iadd, ev_iastore, ev_iinc1, ev_goto, ec_new, ev_dup_ref, ec_callI, ec_aast, ec_vret, e_X1_init, capO_z, kb_6, kb_11, kb_13, kb_15, kb_17, kb_18, kb_19, kb_23, kb_24, kb_25, kb_26, kb_29, kb_31, kb_35, kb_37, kb_41, kb_43, kb_44, kb_61, kb_75, kb_104, kb_7, kb_8, kb_9, kb_10, kb_12, kb_16, kb_20, kb_21, kb_30, kb_32, kb_40, kb_48, kb_50, kb_57, kb_59, kb_60, kb_63, kb_70, kb_78, kb_81, kb_82, kb_84, kb_97, kb_99, kb_100, kb_101, kb_119, kb_120, kb_122, ki_m1, ki_0, ki_1, ki_2, ki_3, ki_4, ki_5, ki_6, ki_7, ki_8, ki_9, ki_10, ki_11, ki_12, ki_13, ki_14, ki_15, ki_16, ki_17, ki_18, ki_19, ki_20, ki_21, ki_22, ki_23, ki_24, ki_25, ki_26, ki_27, ki_28, ki_29, ki_30, ki_31, ki_32, ki_33, ki_34, ki_35, ki_36, ki_37, ki_38, ki_39, ki_40, ki_41, ki_42, ki_43, ki_44, ki_45, ki_46, ki_47, ki_48, ki_49, ki_50, ki_51, ki_52, ki_53, ki_54, ki_55, ki_56, ki_57, ki_58, ki_59, ki_60, ki_61, ki_62, ki_63, ks_m2000, ks_m1006, ks_m1005, ks_m1004, ks_m1003, ks_m1002, ks_m1000, ks_200, ks_201, ks_300, ks_720, ks_9000, ks_10000, ks_250, ks_255, ks_256, ks_320, ks_660, ks_999, ks_1000, ks_9999, ks_12345, ne_2, ne_10, t_0, t_40, t_41, t_42, t_43, t_44, t_45, t_46, t_47, r_0_0, r_0_1, r_0_2, r_0_4, r_0_5, r_0_6, r_0_7, r_40_0, r_40_5, r_44_0, r_44_1, t_1, t_14, t_27, t_2, t_15, t_28, t_64, Nat.reduceEqDiff, ne_eq, not_false_eq_true, false_implies, true_implies, implies_true, Nat.reduceAdd, Nat.reduceLeDiff, Nat.reduceLT, Nat.reduceMul, or_true, true_or, if_true, if_false, not_true_eq_false, and_self, bF, Nat.reduceBEq, Bool.false_and, Bool.and_false, Bool.or_self, Bool.or_false, Bool.false_or, Bool.false_eq_true, Int.reduceAdd, Bool.and_self, Bool.true_and, Bool.and_true, beq_self_eq_true, not_not_, i10_, i01_, List.length_nil, List.length_cons, true_and, and_true, false_and, and_false, kl_i, kl_a, kl_n, kl_l, tl_s, tl_n, rv_S, pd_0, pd_e, pd_r, pd_i, pd_l, w_nw, w_pR, c_nw, c_pR, y_nw, y_pR, q_nw, q_pR, h1, e0, e1, kz_8, kz_8n, kz_10, kz_10n]
  repeat refine And.intro (by omega) ?_
  exact key
