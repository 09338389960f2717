variable {nn : Nat}
/-! ===== constructors ===== -/
section EC
variable {n : Nat} {J : Nat → SpS → List Value → List Value → AH → Prop} {Rt : Option Value → SpS → AH → Prop} {cap : Nat × Nat} {A : Nat → List Item} {pc : Nat} {g : List Nat} {Sp : SpT} {S : SpS} {lv st r : List Value} {h : AH} {L : List Item}
theorem ec_new {idx ci : Nat} : (goF (n + 1) J Rt cap A ((pc, .new idx, [ci], Sp) :: L) S lv st h) = ((nC S + 1 ≤ 100000 ∧ nC S + 1 ≤ cap.1 ∧ sC S + nF ci ≤ cap.2) ∧ goF (n + 1) J Rt cap A L (nwS S ci 0 (nF ci)) lv (.ref (nC S) :: st) (zA h (nC S))) := nr rfl
theorem ec_newI {x : Int32} : (goF (n + 1) J Rt cap A ((pc, .newarray .int, g, Sp) :: L) S lv (.int x :: r) h) = ((¬ x < 0 ∧ x.toNatClampNeg ≤ 100000 ∧ nC S + 1 ≤ 100000 ∧ nC S + 1 ≤ cap.1 ∧ sC S + x.toNatClampNeg ≤ cap.2) ∧ goF (n + 1) J Rt cap A L (nwS S 10 x.toNatClampNeg x.toNatClampNeg) lv (.ref (nC S) :: r) (zA h (nC S))) := nr rfl
theorem ec_newJ {x : Int32} : (goF (n + 1) J Rt cap A ((pc, .newarray .long, g, Sp) :: L) S lv (.int x :: r) h) = ((¬ x < 0 ∧ x.toNatClampNeg ≤ 100000 ∧ nC S + 1 ≤ 100000 ∧ nC S + 1 ≤ cap.1 ∧ sC S + x.toNatClampNeg ≤ cap.2) ∧ goF (n + 1) J Rt cap A L (nwS S 11 x.toNatClampNeg x.toNatClampNeg) lv (.ref (nC S) :: r) (zA h (nC S))) := nr rfl
theorem ec_anew {idx co : Nat} {x : Int32} : (goF (n + 1) J Rt cap A ((pc, .anewarray idx, [co], Sp) :: L) S lv (.int x :: r) h) = ((¬ x < 0 ∧ x.toNatClampNeg ≤ 100000 ∧ nC S + 1 ≤ 100000 ∧ nC S + 1 ≤ cap.1 ∧ sC S + x.toNatClampNeg ≤ cap.2) ∧ goF (n + 1) J Rt cap A L (nwS S co x.toNatClampNeg x.toNatClampNeg) lv (.ref (nC S) :: r) (zA h (nC S))) := nr rfl
theorem ec_putfR {idx a ci kk b : Nat} : (goF (n + 1) J Rt cap A ((pc, .putfield idx, [ci, kk, 1], Sp) :: L) S lv (.ref b :: .ref a :: r) h) = ((tC S a).1 = ci ∧ goF (n + 1) J Rt cap A L (pR S a kk (b + 1)) lv r h) := nr rfl
theorem ec_aast {a b : Addr} {i : Int32} : (goF (n + 1) J Rt cap A ((pc, .aastore, g, Sp) :: L) S lv (.ref b :: .int i :: .ref a :: r) h) = ((((tC S a).1 = 12 ∧ (tC S b).1 = 1) ∨ ((tC S a).1 = 13 ∧ (tC S b).1 = 3)) ∧ vp_in i (tC S a).2 ∧ goF (n + 1) J Rt cap A L (pR S a i.toNatClampNeg (b + 1)) lv r h) := nr rfl
theorem ec_obj {idx : Nat} {b : Addr} : (goF (n + 1) J Rt cap A ((pc, .invokespecial idx, [], Sp) :: L) S lv (.ref b :: r) h) = (r.length ≤ 4 ∧ goF (n + 1) J Rt cap A L S lv r h) := nr rfl
theorem ec_callI {idx mc ms : Nat} {b : Addr} : (goF (n + 1) J Rt cap A ((pc, .invokespecial idx, [0, mc, ms], Sp) :: L) S lv (.ref b :: r) h) = ((tC S b).1 ≠ 99 ∧ r.length ≤ 4 ∧ capO cap S mc ms ∧ Sp S [.ref b] h (fun v S1 h1 => goF (n + 1) J Rt cap A L S1 lv (v.toList ++ r) h1)) := nr rfl
theorem ec_vret {mc ms : Nat} {S0 : SpS} {K : Option Value → SpS → AH → Prop} : goF (n + 1) J (RtM none S0 mc ms K) cap A ((pc, .return_, g, Sp) :: L) S lv [] h = (nC S = nC S0 + mc ∧ sC S = sC S0 + ms ∧ K none S h) := propext ⟨fun q => q.2, fun q => ⟨trivial, q⟩⟩
end EC
theorem w_nw (S : SpS) (a b c : Nat) : nC (nwS S a b c) = nC S + 1 := nr rfl
theorem w_pR (S : SpS) (a b c : Nat) : nC (pR S a b c) = nC S := nr rfl
theorem c_nw (S : SpS) (a b c : Nat) : sC (nwS S a b c) = sC S + c := nr rfl
theorem c_pR (S : SpS) (a b c : Nat) : sC (pR S a b c) = sC S := nr rfl
theorem y_nw (S : SpS) (a b c k : Nat) : tC (nwS S a b c) k = if k = nC S then (a, b) else tC S k := nr rfl
theorem y_pR (S : SpS) (a b c k : Nat) : tC (pR S a b c) k = tC S k := nr rfl
theorem q_nw (S : SpS) (a b c k j : Nat) : rC (nwS S a b c) k j = if k = nC S then 0 else rC S k j := nr rfl
theorem q_pR (S : SpS) (a b c k j : Nat) : rC (pR S a b c) k j = if k = a ∧ j = b then c else rC S k j := nr rfl
/-! Heir, Opinions, Shelf, Tape -/
def S_X1_init : SpT := fun S as h K => match as with
  | [.ref x] => (tC S x).1 = 1 ∧ K none S (pI h x 2 (-1))
  | _ => False
theorem e_X1_init {S : SpS} {x : Addr} {h : AH} {K : Option Value → SpS → AH → Prop} : S_X1_init S [.ref x] h K = ((tC S x).1 = 1 ∧ K none S (pI h x 2 (-1))) := nr rfl
def L_X1_init_0 : List Item := (0, .aload_n 0, [], nS) :: (1, .invokespecial 3, [], nS) :: (4, .aload_n 0, [], nS) :: (5, .iconst (-1), [], nS) :: (6, .putfield 9, [1, 2, 0], nS) :: (9, .return_, [], nS) :: []
def L_X1_init : List Item := L_X1_init_0
theorem ok_X1_init : okB cX1_init L_X1_init = true := by decide +kernel
theorem lk_X1_init (l : Launch) : LKs l RX1 1 true L_X1_init := ⟨trivial, Or.inl ⟨rfl, gT_of (List.mem_of_getElem? (i := 59) (by decide +kernel)) rfl⟩, trivial, trivial, ⟨_, _, _, rfl, ⟨(RX1, TX1, 7), rfl, by decide, gT_of (List.mem_of_getElem? (i := 64) (by decide +kernel)) rfl⟩, rfl, fun q => absurd rfl q⟩, trivial, trivial⟩
theorem b_X1_init_0 : atL L_X1_init 0 = L_X1_init_0 := rfl
theorem yv_X1_init : YI yX1_init cX1_init 1 0 := ⟨⟨gT_of (List.mem_of_getElem? (i := 58) (by decide +kernel)) rfl, gT_of (List.mem_of_getElem? (i := 28) (by decide +kernel)) rfl, ⟨by decide, by decide⟩, by decide +kernel, by decide⟩, gT_of (List.mem_of_getElem? (i := 57) (by decide +kernel)) rfl, rfl⟩
theorem u_X1_init_0 : L_X1_init_0 = (0, .aload_n 0, [], nS) :: (1, .invokespecial 3, [], nS) :: (4, .aload_n 0, [], nS) :: (5, .iconst (-1), [], nS) :: (6, .putfield 9, [1, 2, 0], nS) :: (9, .return_, [], nS) :: [] := nr rfl
theorem z_X1_init_0 : atL L_X1_init 0 = L_X1_init_0 := nr rfl
set_option maxRecDepth 100000 in
set_option maxHeartbeats 4000000 in
theorem c_X1_init (l : Launch) : Ct l yX1_init cX1_init 1 none 1 0 0 S_X1_init := by
  refine Ct_mk L_X1_init [] (by decide +kernel) (by decide) (fun _ => rfl) ok_X1_init (lk_X1_init l) ?_
  intro S as h K hP
  match as, hP with
  | [.ref x], ⟨h1, hK⟩ =>
  refine ⟨by simp [slotsN, Value.category], fun J hJ => ?_⟩
  refine hJ 0 _ _ _ _ ?_
  simp only [z_X1_init_0, u_X1_init_0, ev_aload_n0, ec_obj, ev_iconst, ev_putfI, ec_vret, capO_z, kb_6, kb_11, kb_13, kb_15, kb_17, kb_18, kb_19, kb_23, kb_24, kb_25, kb_26, kb_29, kb_31, kb_35, kb_37, kb_41, kb_43, kb_44, kb_61, kb_75, kb_104, kb_7, kb_8, kb_9, kb_10, kb_12, kb_16, kb_20, kb_21, kb_30, kb_32, kb_40, kb_48, kb_50, kb_57, kb_59, kb_60, kb_63, kb_70, kb_78, kb_81, kb_82, kb_84, kb_97, kb_99, kb_100, kb_101, kb_119, kb_120, kb_122, ki_m1, ki_0, ki_1, ki_2, ki_3, ki_4, ki_5, ki_6, ki_7, ki_8, ki_9, ki_10, ki_11, ki_12, ki_13, ki_14, ki_15, ki_16, ki_17, ki_18, ki_19, ki_20, ki_21, ki_22, ki_23, ki_24, ki_25, ki_26, ki_27, ki_28, ki_29, ki_30, ki_31, ki_32, ki_33, ki_34, ki_35, ki_36, ki_37, ki_38, ki_39, ki_40, ki_41, ki_42, ki_43, ki_44, ki_45, ki_46, ki_47, ki_48, ki_49, ki_50, ki_51, ki_52, ki_53, ki_54, ki_55, ki_56, ki_57, ki_58, ki_59, ki_60, ki_61, ki_62, ki_63, ks_m2000, ks_m1006, ks_m1005, ks_m1004, ks_m1003, ks_m1002, ks_m1000, ks_200, ks_201, ks_300, ks_720, ks_9000, ks_10000, ks_250, ks_255, ks_256, ks_320, ks_660, ks_999, ks_1000, ks_9999, ks_12345, ne_2, ne_10, t_0, t_40, t_41, t_42, t_43, t_44, t_45, t_46, t_47, r_0_0, r_0_1, r_0_2, r_0_4, r_0_5, r_0_6, r_0_7, r_40_0, r_40_5, r_44_0, r_44_1, t_1, t_14, t_27, t_2, t_15, t_28, t_64, Nat.reduceEqDiff, ne_eq, not_false_eq_true, false_implies, true_implies, implies_true, Nat.reduceAdd, Nat.reduceLeDiff, Nat.reduceLT, Nat.reduceMul, or_true, true_or, if_true, if_false, not_true_eq_false, and_self, bF, Nat.reduceBEq, Bool.false_and, Bool.and_false, Bool.or_self, Bool.or_false, Bool.false_or, Bool.false_eq_true, Int.reduceAdd, Bool.and_self, Bool.true_and, Bool.and_true, beq_self_eq_true, not_not_, i10_, i01_, List.length_nil, List.length_cons, true_and, and_true, false_and, and_false, kl_i, kl_a, kl_n, kl_l, tl_s, tl_n, rv_S, pd_0, pd_e, pd_r, pd_i, pd_l, w_nw, w_pR, c_nw, c_pR, y_nw, y_pR, q_nw, q_pR, h1]
  exact ⟨by omega, by omega, hK⟩
def opS (S : SpS) (x : Nat) : SpS := pR (nwS (pR (nwS S 10 8 8) x 0 (nC S + 1)) 10 8 8) x 1 (nC S + 1 + 1)
def opH (S : SpS) (h : AH) : AH := zA (zA h (nC S)) (nC S + 1)
theorem w_op (S : SpS) (x : Nat) : nC (opS S x) = nC S + 2 := nr rfl
theorem c_op (S : SpS) (x : Nat) : sC (opS S x) = sC S + 16 := nr rfl
def S_X2_init : SpT := fun S as h K => match as with
  | [.ref x] => (tC S x).1 = 2 ∧ x < nC S ∧ nC S + 2 ≤ 100000 ∧ K none (opS S x) (opH S h)
  | _ => False
theorem e_X2_init {S : SpS} {x : Addr} {h : AH} {K : Option Value → SpS → AH → Prop} : S_X2_init S [.ref x] h K = ((tC S x).1 = 2 ∧ x < nC S ∧ nC S + 2 ≤ 100000 ∧ K none (opS S x) (opH S h)) := nr rfl
theorem kz_4 : ¬ (4 : Int32) < 0 ∧ (4 : Int32).toNatClampNeg = 4 := by decide
theorem kz_8 : ((8 : Int32) < 0) = False := by decide
theorem kz_8n : (8 : Int32).toNatClampNeg = 8 := by decide
theorem kz_3 : ((3 : Int32) < 0) = False := by decide
theorem kz_3n : (3 : Int32).toNatClampNeg = 3 := by decide
theorem kz_4a : ((4 : Int32) < 0) = False := by decide
theorem kz_4n : (4 : Int32).toNatClampNeg = 4 := by decide
theorem kz_5 : ((5 : Int32) < 0) = False := by decide
theorem kz_5n : (5 : Int32).toNatClampNeg = 5 := by decide
theorem kz_7 : ((7 : Int32) < 0) = False := by decide
theorem kz_7n : (7 : Int32).toNatClampNeg = 7 := by decide
theorem kz_10 : ((10 : Int32) < 0) = False := by decide
theorem kz_10n : (10 : Int32).toNatClampNeg = 10 := by decide
theorem kz_40 : ((40 : Int32) < 0) = False := by decide
theorem kz_40n : (40 : Int32).toNatClampNeg = 40 := by decide
theorem kz_84 : ((84 : Int32) < 0) = False := by decide
theorem kz_84n : (84 : Int32).toNatClampNeg = 84 := by decide
theorem kz_250 : ((250 : Int32) < 0) = False := by decide
theorem kz_250n : (250 : Int32).toNatClampNeg = 250 := by decide
theorem kz_320 : ((320 : Int32) < 0) = False := by decide
theorem kz_320n : (320 : Int32).toNatClampNeg = 320 := by decide
def L_X2_init_0 : List Item := (0, .aload_n 0, [], nS) :: (1, .invokespecial 3, [], nS) :: (4, .aload_n 0, [], nS) :: (5, .bipush 8, [], nS) :: (7, .newarray .int, [], nS) :: (9, .putfield 9, [2, 0, 1], nS) :: (12, .aload_n 0, [], nS) :: (13, .bipush 8, [], nS) :: (15, .newarray .int, [], nS) :: (17, .putfield 15, [2, 1, 1], nS) :: (20, .return_, [], nS) :: []
def L_X2_init : List Item := L_X2_init_0
theorem ok_X2_init : okB cX2_init L_X2_init = true := by decide +kernel
theorem lk_X2_init (l : Launch) : LKs l RX2 1 true L_X2_init := ⟨trivial, Or.inl ⟨rfl, gT_of (List.mem_of_getElem? (i := 164) (by decide +kernel)) rfl⟩, trivial, trivial, trivial, ⟨_, _, _, rfl, ⟨(RX2, TX2, 2), rfl, by decide, gT_of (List.mem_of_getElem? (i := 165) (by decide +kernel)) rfl⟩, rfl, fun _ => ⟨rfl, rfl⟩⟩, trivial, trivial, trivial, ⟨_, _, _, rfl, ⟨(RX2, TX2, 2), rfl, by decide, gT_of (List.mem_of_getElem? (i := 166) (by decide +kernel)) rfl⟩, rfl, fun _ => ⟨rfl, rfl⟩⟩, trivial, trivial⟩
theorem b_X2_init_0 : atL L_X2_init 0 = L_X2_init_0 := rfl
theorem yv_X2_init : YI yX2_init cX2_init 1 0 := ⟨⟨gT_of (List.mem_of_getElem? (i := 163) (by decide +kernel)) rfl, gT_of (List.mem_of_getElem? (i := 30) (by decide +kernel)) rfl, ⟨by decide, by decide⟩, by decide +kernel, by decide⟩, gT_of (List.mem_of_getElem? (i := 162) (by decide +kernel)) rfl, rfl⟩
theorem u_X2_init_0 : L_X2_init_0 = (0, .aload_n 0, [], nS) :: (1, .invokespecial 3, [], nS) :: (4, .aload_n 0, [], nS) :: (5, .bipush 8, [], nS) :: (7, .newarray .int, [], nS) :: (9, .putfield 9, [2, 0, 1], nS) :: (12, .aload_n 0, [], nS) :: (13, .bipush 8, [], nS) :: (15, .newarray .int, [], nS) :: (17, .putfield 15, [2, 1, 1], nS) :: (20, .return_, [], nS) :: [] := nr rfl
theorem z_X2_init_0 : atL L_X2_init 0 = L_X2_init_0 := nr rfl
set_option maxRecDepth 100000 in
set_option maxHeartbeats 4000000 in
theorem c_X2_init (l : Launch) : Ct l yX2_init cX2_init 1 none 1 2 16 S_X2_init := by
  refine Ct_mk L_X2_init [] (by decide +kernel) (by decide) (fun _ => rfl) ok_X2_init (lk_X2_init l) ?_
  intro S as h K hP
  match as, hP with
  | [.ref x], ⟨h1, h2, h3, hK⟩ =>
  refine ⟨by simp [slotsN, Value.category], fun J hJ => ?_⟩
  have e0 : (x = nC S) = False := eq_false (Nat.ne_of_lt h2)
  have e1 : (x = nC S + 1) = False := eq_false (Nat.ne_of_lt (Nat.lt_succ_of_lt h2))
  refine hJ 0 _ _ _ _ ?_
  simp only [z_X2_init_0, u_X2_init_0, ev_aload_n0, ec_obj, ev_bipush, ec_newI, ec_newJ, ec_putfR, ec_vret, capO_z, kb_6, kb_11, kb_13, kb_15, kb_17, kb_18, kb_19, kb_23, kb_24, kb_25, kb_26, kb_29, kb_31, kb_35, kb_37, kb_41, kb_43, kb_44, kb_61, kb_75, kb_104, kb_7, kb_8, kb_9, kb_10, kb_12, kb_16, kb_20, kb_21, kb_30, kb_32, kb_40, kb_48, kb_50, kb_57, kb_59, kb_60, kb_63, kb_70, kb_78, kb_81, kb_82, kb_84, kb_97, kb_99, kb_100, kb_101, kb_119, kb_120, kb_122, ki_m1, ki_0, ki_1, ki_2, ki_3, ki_4, ki_5, ki_6, ki_7, ki_8, ki_9, ki_10, ki_11, ki_12, ki_13, ki_14, ki_15, ki_16, ki_17, ki_18, ki_19, ki_20, ki_21, ki_22, ki_23, ki_24, ki_25, ki_26, ki_27, ki_28, ki_29, ki_30, ki_31, ki_32, ki_33, ki_34, ki_35, ki_36, ki_37, ki_38, ki_39, ki_40, ki_41, ki_42, ki_43, ki_44, ki_45, ki_46, ki_47, ki_48, ki_49, ki_50, ki_51, ki_52, ki_53, ki_54, ki_55, ki_56, ki_57, ki_58, ki_59, ki_60, ki_61, ki_62, ki_63, ks_m2000, ks_m1006, ks_m1005, ks_m1004, ks_m1003, ks_m1002, ks_m1000, ks_200, ks_201, ks_300, ks_720, ks_9000, ks_10000, ks_250, ks_255, ks_256, ks_320, ks_660, ks_999, ks_1000, ks_9999, ks_12345, ne_2, ne_10, t_0, t_40, t_41, t_42, t_43, t_44, t_45, t_46, t_47, r_0_0, r_0_1, r_0_2, r_0_4, r_0_5, r_0_6, r_0_7, r_40_0, r_40_5, r_44_0, r_44_1, t_1, t_14, t_27, t_2, t_15, t_28, t_64, Nat.reduceEqDiff, ne_eq, not_false_eq_true, false_implies, true_implies, implies_true, Nat.reduceAdd, Nat.reduceLeDiff, Nat.reduceLT, Nat.reduceMul, or_true, true_or, if_true, if_false, not_true_eq_false, and_self, bF, Nat.reduceBEq, Bool.false_and, Bool.and_false, Bool.or_self, Bool.or_false, Bool.false_or, Bool.false_eq_true, Int.reduceAdd, Bool.and_self, Bool.true_and, Bool.and_true, beq_self_eq_true, not_not_, i10_, i01_, List.length_nil, List.length_cons, true_and, and_true, false_and, and_false, kl_i, kl_a, kl_n, kl_l, tl_s, tl_n, rv_S, pd_0, pd_e, pd_r, pd_i, pd_l, w_nw, w_pR, c_nw, c_pR, y_nw, y_pR, q_nw, q_pR, h1, e0, e1, kz_8, kz_8n]
  repeat refine And.intro (by omega) ?_
  exact hK
def shS (S : SpS) (x : Nat) : SpS := pR (nwS S 11 40 40) x 2 (nC S + 1)
def shH (S : SpS) (x : Nat) (h : AH) : AH := zA (pI h x 0 (-1)) (nC S)
theorem w_sh (S : SpS) (x : Nat) : nC (shS S x) = nC S + 1 := nr rfl
theorem c_sh (S : SpS) (x : Nat) : sC (shS S x) = sC S + 40 := nr rfl
def S_X3_init : SpT := fun S as h K => match as with
  | [.ref x] => (tC S x).1 = 3 ∧ x < nC S ∧ nC S + 1 ≤ 100000 ∧ K none (shS S x) (shH S x h)
  | _ => False
theorem e_X3_init {S : SpS} {x : Addr} {h : AH} {K : Option Value → SpS → AH → Prop} : S_X3_init S [.ref x] h K = ((tC S x).1 = 3 ∧ x < nC S ∧ nC S + 1 ≤ 100000 ∧ K none (shS S x) (shH S x h)) := nr rfl
def L_X3_init_0 : List Item := (0, .aload_n 0, [], nS) :: (1, .invokespecial 3, [], nS) :: (4, .aload_n 0, [], nS) :: (5, .iconst (-1), [], nS) :: (6, .putfield 9, [3, 0, 0], nS) :: (9, .aload_n 0, [], nS) :: (10, .bipush 40, [], nS) :: (12, .newarray .long, [], nS) :: (14, .putfield 15, [3, 2, 1], nS) :: (17, .return_, [], nS) :: []
def L_X3_init : List Item := L_X3_init_0
theorem ok_X3_init : okB cX3_init L_X3_init = true := by decide +kernel
theorem lk_X3_init (l : Launch) : LKs l RX3 1 true L_X3_init := ⟨trivial, Or.inl ⟨rfl, gT_of (List.mem_of_getElem? (i := 176) (by decide +kernel)) rfl⟩, trivial, trivial, ⟨_, _, _, rfl, ⟨(RX3, TX3, 3), rfl, by decide, gT_of (List.mem_of_getElem? (i := 177) (by decide +kernel)) rfl⟩, rfl, fun q => absurd rfl q⟩, trivial, trivial, trivial, ⟨_, _, _, rfl, ⟨(RX3, TX3, 3), rfl, by decide, gT_of (List.mem_of_getElem? (i := 181) (by decide +kernel)) rfl⟩, rfl, fun _ => ⟨rfl, rfl⟩⟩, trivial, trivial⟩
theorem b_X3_init_0 : atL L_X3_init 0 = L_X3_init_0 := rfl
theorem yv_X3_init : YI yX3_init cX3_init 1 0 := ⟨⟨gT_of (List.mem_of_getElem? (i := 175) (by decide +kernel)) rfl, gT_of (List.mem_of_getElem? (i := 31) (by decide +kernel)) rfl, ⟨by decide, by decide⟩, by decide +kernel, by decide⟩, gT_of (List.mem_of_getElem? (i := 174) (by decide +kernel)) rfl, rfl⟩
theorem u_X3_init_0 : L_X3_init_0 = (0, .aload_n 0, [], nS) :: (1, .invokespecial 3, [], nS) :: (4, .aload_n 0, [], nS) :: (5, .iconst (-1), [], nS) :: (6, .putfield 9, [3, 0, 0], nS) :: (9, .aload_n 0, [], nS) :: (10, .bipush 40, [], nS) :: (12, .newarray .long, [], nS) :: (14, .putfield 15, [3, 2, 1], nS) :: (17, .return_, [], nS) :: [] := nr rfl
theorem z_X3_init_0 : atL L_X3_init 0 = L_X3_init_0 := nr rfl
set_option maxRecDepth 100000 in
set_option maxHeartbeats 4000000 in
theorem c_X3_init (l : Launch) : Ct l yX3_init cX3_init 1 none 1 1 40 S_X3_init := by
  refine Ct_mk L_X3_init [] (by decide +kernel) (by decide) (fun _ => rfl) ok_X3_init (lk_X3_init l) ?_
  intro S as h K hP
  match as, hP with
  | [.ref x], ⟨h1, h2, h3, hK⟩ =>
  refine ⟨by simp [slotsN, Value.category], fun J hJ => ?_⟩
  have e0 : (x = nC S) = False := eq_false (Nat.ne_of_lt h2)
  refine hJ 0 _ _ _ _ ?_
  simp only [z_X3_init_0, u_X3_init_0, ev_aload_n0, ec_obj, ev_iconst, ev_putfI, ev_bipush, ec_newI, ec_newJ, ec_putfR, ec_vret, capO_z, kb_6, kb_11, kb_13, kb_15, kb_17, kb_18, kb_19, kb_23, kb_24, kb_25, kb_26, kb_29, kb_31, kb_35, kb_37, kb_41, kb_43, kb_44, kb_61, kb_75, kb_104, kb_7, kb_8, kb_9, kb_10, kb_12, kb_16, kb_20, kb_21, kb_30, kb_32, kb_40, kb_48, kb_50, kb_57, kb_59, kb_60, kb_63, kb_70, kb_78, kb_81, kb_82, kb_84, kb_97, kb_99, kb_100, kb_101, kb_119, kb_120, kb_122, ki_m1, ki_0, ki_1, ki_2, ki_3, ki_4, ki_5, ki_6, ki_7, ki_8, ki_9, ki_10, ki_11, ki_12, ki_13, ki_14, ki_15, ki_16, ki_17, ki_18, ki_19, ki_20, ki_21, ki_22, ki_23, ki_24, ki_25, ki_26, ki_27, ki_28, ki_29, ki_30, ki_31, ki_32, ki_33, ki_34, ki_35, ki_36, ki_37, ki_38, ki_39, ki_40, ki_41, ki_42, ki_43, ki_44, ki_45, ki_46, ki_47, ki_48, ki_49, ki_50, ki_51, ki_52, ki_53, ki_54, ki_55, ki_56, ki_57, ki_58, ki_59, ki_60, ki_61, ki_62, ki_63, ks_m2000, ks_m1006, ks_m1005, ks_m1004, ks_m1003, ks_m1002, ks_m1000, ks_200, ks_201, ks_300, ks_720, ks_9000, ks_10000, ks_250, ks_255, ks_256, ks_320, ks_660, ks_999, ks_1000, ks_9999, ks_12345, ne_2, ne_10, t_0, t_40, t_41, t_42, t_43, t_44, t_45, t_46, t_47, r_0_0, r_0_1, r_0_2, r_0_4, r_0_5, r_0_6, r_0_7, r_40_0, r_40_5, r_44_0, r_44_1, t_1, t_14, t_27, t_2, t_15, t_28, t_64, Nat.reduceEqDiff, ne_eq, not_false_eq_true, false_implies, true_implies, implies_true, Nat.reduceAdd, Nat.reduceLeDiff, Nat.reduceLT, Nat.reduceMul, or_true, true_or, if_true, if_false, not_true_eq_false, and_self, bF, Nat.reduceBEq, Bool.false_and, Bool.and_false, Bool.or_self, Bool.or_false, Bool.false_or, Bool.false_eq_true, Int.reduceAdd, Bool.and_self, Bool.true_and, Bool.and_true, beq_self_eq_true, not_not_, i10_, i01_, List.length_nil, List.length_cons, true_and, and_true, false_and, and_false, kl_i, kl_a, kl_n, kl_l, tl_s, tl_n, rv_S, pd_0, pd_e, pd_r, pd_i, pd_l, w_nw, w_pR, c_nw, c_pR, y_nw, y_pR, q_nw, q_pR, h1, e0, kz_40, kz_40n]
  repeat refine And.intro (by omega) ?_
  exact hK
def taS (S : SpS) (x : Nat) : SpS := pR (nwS (pR (nwS S 10 250 250) x 0 (nC S + 1)) 10 4 4) x 5 (nC S + 1 + 1)
def taH (S : SpS) (h : AH) : AH := zA (zA h (nC S)) (nC S + 1)
theorem w_ta (S : SpS) (x : Nat) : nC (taS S x) = nC S + 2 := nr rfl
theorem c_ta (S : SpS) (x : Nat) : sC (taS S x) = sC S + 254 := nr rfl
def S_X4_init : SpT := fun S as h K => match as with
  | [.ref x] => (tC S x).1 = 4 ∧ x < nC S ∧ nC S + 2 ≤ 100000 ∧ K none (taS S x) (taH S h)
  | _ => False
theorem e_X4_init {S : SpS} {x : Addr} {h : AH} {K : Option Value → SpS → AH → Prop} : S_X4_init S [.ref x] h K = ((tC S x).1 = 4 ∧ x < nC S ∧ nC S + 2 ≤ 100000 ∧ K none (taS S x) (taH S h)) := nr rfl
def L_X4_init_0 : List Item := (0, .aload_n 0, [], nS) :: (1, .invokespecial 3, [], nS) :: (4, .aload_n 0, [], nS) :: (5, .sipush 250, [], nS) :: (8, .newarray .int, [], nS) :: (10, .putfield 9, [4, 0, 1], nS) :: (13, .aload_n 0, [], nS) :: (14, .iconst 4, [], nS) :: (15, .newarray .int, [], nS) :: (17, .putfield 15, [4, 5, 1], nS) :: (20, .return_, [], nS) :: []
def L_X4_init : List Item := L_X4_init_0
theorem ok_X4_init : okB cX4_init L_X4_init = true := by decide +kernel
theorem lk_X4_init (l : Launch) : LKs l RX4 1 true L_X4_init := ⟨trivial, Or.inl ⟨rfl, gT_of (List.mem_of_getElem? (i := 135) (by decide +kernel)) rfl⟩, trivial, trivial, trivial, ⟨_, _, _, rfl, ⟨(RX4, TX4, 6), rfl, by decide, gT_of (List.mem_of_getElem? (i := 136) (by decide +kernel)) rfl⟩, rfl, fun _ => ⟨rfl, rfl⟩⟩, trivial, trivial, trivial, ⟨_, _, _, rfl, ⟨(RX4, TX4, 6), rfl, by decide, gT_of (List.mem_of_getElem? (i := 143) (by decide +kernel)) rfl⟩, rfl, fun _ => ⟨rfl, rfl⟩⟩, trivial, trivial⟩
theorem b_X4_init_0 : atL L_X4_init 0 = L_X4_init_0 := rfl
theorem yv_X4_init : YI yX4_init cX4_init 1 0 := ⟨⟨gT_of (List.mem_of_getElem? (i := 134) (by decide +kernel)) rfl, gT_of (List.mem_of_getElem? (i := 29) (by decide +kernel)) rfl, ⟨by decide, by decide⟩, by decide +kernel, by decide⟩, gT_of (List.mem_of_getElem? (i := 133) (by decide +kernel)) rfl, rfl⟩
theorem u_X4_init_0 : L_X4_init_0 = (0, .aload_n 0, [], nS) :: (1, .invokespecial 3, [], nS) :: (4, .aload_n 0, [], nS) :: (5, .sipush 250, [], nS) :: (8, .newarray .int, [], nS) :: (10, .putfield 9, [4, 0, 1], nS) :: (13, .aload_n 0, [], nS) :: (14, .iconst 4, [], nS) :: (15, .newarray .int, [], nS) :: (17, .putfield 15, [4, 5, 1], nS) :: (20, .return_, [], nS) :: [] := nr rfl
theorem z_X4_init_0 : atL L_X4_init 0 = L_X4_init_0 := nr rfl
set_option maxRecDepth 100000 in
set_option maxHeartbeats 4000000 in
theorem c_X4_init (l : Launch) : Ct l yX4_init cX4_init 1 none 1 2 254 S_X4_init := by
  refine Ct_mk L_X4_init [] (by decide +kernel) (by decide) (fun _ => rfl) ok_X4_init (lk_X4_init l) ?_
  intro S as h K hP
  match as, hP with
  | [.ref x], ⟨h1, h2, h3, hK⟩ =>
  refine ⟨by simp [slotsN, Value.category], fun J hJ => ?_⟩
  have e0 : (x = nC S) = False := eq_false (Nat.ne_of_lt h2)
  have e1 : (x = nC S + 1) = False := eq_false (Nat.ne_of_lt (Nat.lt_succ_of_lt h2))
  refine hJ 0 _ _ _ _ ?_
  simp only [z_X4_init_0, u_X4_init_0, ev_aload_n0, ec_obj, ev_sipush, ec_newI, ec_newJ, ec_putfR, ev_iconst, ec_vret, capO_z, kb_6, kb_11, kb_13, kb_15, kb_17, kb_18, kb_19, kb_23, kb_24, kb_25, kb_26, kb_29, kb_31, kb_35, kb_37, kb_41, kb_43, kb_44, kb_61, kb_75, kb_104, kb_7, kb_8, kb_9, kb_10, kb_12, kb_16, kb_20, kb_21, kb_30, kb_32, kb_40, kb_48, kb_50, kb_57, kb_59, kb_60, kb_63, kb_70, kb_78, kb_81, kb_82, kb_84, kb_97, kb_99, kb_100, kb_101, kb_119, kb_120, kb_122, ki_m1, ki_0, ki_1, ki_2, ki_3, ki_4, ki_5, ki_6, ki_7, ki_8, ki_9, ki_10, ki_11, ki_12, ki_13, ki_14, ki_15, ki_16, ki_17, ki_18, ki_19, ki_20, ki_21, ki_22, ki_23, ki_24, ki_25, ki_26, ki_27, ki_28, ki_29, ki_30, ki_31, ki_32, ki_33, ki_34, ki_35, ki_36, ki_37, ki_38, ki_39, ki_40, ki_41, ki_42, ki_43, ki_44, ki_45, ki_46, ki_47, ki_48, ki_49, ki_50, ki_51, ki_52, ki_53, ki_54, ki_55, ki_56, ki_57, ki_58, ki_59, ki_60, ki_61, ki_62, ki_63, ks_m2000, ks_m1006, ks_m1005, ks_m1004, ks_m1003, ks_m1002, ks_m1000, ks_200, ks_201, ks_300, ks_720, ks_9000, ks_10000, ks_250, ks_255, ks_256, ks_320, ks_660, ks_999, ks_1000, ks_9999, ks_12345, ne_2, ne_10, t_0, t_40, t_41, t_42, t_43, t_44, t_45, t_46, t_47, r_0_0, r_0_1, r_0_2, r_0_4, r_0_5, r_0_6, r_0_7, r_40_0, r_40_5, r_44_0, r_44_1, t_1, t_14, t_27, t_2, t_15, t_28, t_64, Nat.reduceEqDiff, ne_eq, not_false_eq_true, false_implies, true_implies, implies_true, Nat.reduceAdd, Nat.reduceLeDiff, Nat.reduceLT, Nat.reduceMul, or_true, true_or, if_true, if_false, not_true_eq_false, and_self, bF, Nat.reduceBEq, Bool.false_and, Bool.and_false, Bool.or_self, Bool.or_false, Bool.false_or, Bool.false_eq_true, Int.reduceAdd, Bool.and_self, Bool.true_and, Bool.and_true, beq_self_eq_true, not_not_, i10_, i01_, List.length_nil, List.length_cons, true_and, and_true, false_and, and_false, kl_i, kl_a, kl_n, kl_l, tl_s, tl_n, rv_S, pd_0, pd_e, pd_r, pd_i, pd_l, w_nw, w_pR, c_nw, c_pR, y_nw, y_pR, q_nw, q_pR, h1, e0, e1, kz_250, kz_250n, kz_4a, kz_4n]
  repeat refine And.intro (by omega) ?_
  exact hK
