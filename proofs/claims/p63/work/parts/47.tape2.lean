variable {nn : Nat}
/-! ===== THE TAPE: tokens ===== -/
def skipB (B : Nat → Int32) (r i : Nat) : Nat := match r with
  | 0 => i
  | r + 1 => if B i = 32 then skipB B r (i + 1) else i
theorem skipB_s (B : Nat → Int32) (r i : Nat) : skipB B (r + 1) i = if B i = 32 then skipB B r (i + 1) else i := rfl
def runB (B : Nat → Int32) (k : Int32) (r i : Nat) : Nat := match r with
  | 0 => i
  | r + 1 => if sortI (B i) = k then runB B k r (i + 1) else i
theorem runB_s (B : Nat → Int32) (k : Int32) (r i : Nat) : runB B k (r + 1) i = if sortI (B i) = k then runB B k r (i + 1) else i := rfl
theorem skipB_b (B : Nat → Int32) : ∀ r i, i ≤ skipB B r i ∧ skipB B r i ≤ i + r
  | 0, i => ⟨Nat.le_refl i, Nat.le_refl i⟩
  | r + 1, i => by
    rw [skipB_s]
    have := skipB_b B r (i + 1)
    split <;> omega
theorem runB_b (B : Nat → Int32) (k : Int32) : ∀ r i, i ≤ runB B k r i ∧ runB B k r i ≤ i + r
  | 0, i => ⟨Nat.le_refl i, Nat.le_refl i⟩
  | r + 1, i => by
    rw [runB_s]
    have := runB_b B k r (i + 1)
    split <;> omega
/-- the next token from place e on: where it begins, where it ends, its sort -/
def tokB (B : Nat → Int32) (n s : Nat) : Nat × Nat × Int32 := if n ≤ s then (s, s, 4) else (s, if sortI (B s) = 0 ∨ sortI (B s) = 1 then runB B (sortI (B s)) (n - (s + 1)) (s + 1) else s + 1, sortI (B s))
def nextB (B : Nat → Int32) (n e : Nat) : Nat × Nat × Int32 := tokB B n (skipB B (n - e) e)
theorem nextB_b (B : Nat → Int32) {n e : Nat} (he : e ≤ n) : e ≤ (nextB B n e).1 ∧ (nextB B n e).1 ≤ (nextB B n e).2.1 ∧ (nextB B n e).2.1 ≤ n ∧ (¬ (nextB B n e).2.2 = 4 → (nextB B n e).1 < (nextB B n e).2.1) := by
  have h1 := skipB_b B (n - e) e
  unfold nextB tokB
  by_cases q : n ≤ skipB B (n - e) e
  · rw [if_pos q]
    exact ⟨by dsimp only; omega, by dsimp only; omega, by dsimp only; omega, fun z => absurd rfl z⟩
  · rw [if_neg q]
    have h2 := runB_b B (sortI (B (skipB B (n - e) e))) (n - (skipB B (n - e) e + 1)) (skipB B (n - e) e + 1)
    dsimp only
    split
    · exact ⟨by omega, by omega, by omega, fun _ => by omega⟩
    · exact ⟨by omega, by omega, by omega, fun _ => by omega⟩
def tokAt (h : AH) (T : Nat × Nat × Int32) : Prop := gI h 40 2 = nI T.1 ∧ gI h 40 3 = nI T.2.1 ∧ gI h 40 4 = T.2.2
/-- only the reader's own places, and the estate that is told, have changed -/
def frP (h h' : AH) : Prop := (∀ c k, ¬ ((c = 40 ∧ 2 ≤ k) ∨ c = 42 ∨ (14 ≤ c ∧ c < 27)) → gI h' c k = gI h c k) ∧ ∀ c k, gJ h' c k = gJ h c k
theorem frP_rf (h : AH) : frP h h := ⟨fun _ _ _ => rfl, fun _ _ => rfl⟩
theorem frP_tr {h h' h'' : AH} (p1 : frP h h') (p2 : frP h' h'') : frP h h'' := ⟨fun c k hc => (p2.1 c k hc).trans (p1.1 c k hc), fun c k => (p2.2 c k).trans (p1.2 c k)⟩
theorem frP_t {h h' : AH} {k : Nat} {v : Int32} (hf : frP h h') (hk : 2 ≤ k) : frP h (pI h' 40 k v) := ⟨fun c k' hc => by rw [gI_pI, if_neg (by omega)]; exact hf.1 c k' hc, hf.2⟩
theorem frP_n {h h' : AH} {k : Nat} {v : Int32} (hf : frP h h') : frP h (pI h' 42 k v) := ⟨fun c k' hc => by rw [gI_pI, if_neg (by omega)]; exact hf.1 c k' hc, hf.2⟩
theorem frP_E {h h' : AH} (hf : frE 14 h h') : frP h h' := ⟨fun c k hc => hf.1 c k (by omega), hf.2⟩
theorem frP_B {h h' : AH} (hf : frP h h') : gI h' 41 = gI h 41 := funext fun k => hf.1 41 k (by omega)
theorem frP_S {h h' : AH} (hf : frP h h') : gI h' 40 1 = gI h 40 1 := hf.1 40 1 (by omega)
/-- the tape's own heap step: the estate is as it was -/
def frN (h h' : AH) : Prop := (∀ c k, ¬ ((c = 40 ∧ 2 ≤ k) ∨ c = 42) → gI h' c k = gI h c k) ∧ ∀ c k, gJ h' c k = gJ h c k
theorem frN_rf (h : AH) : frN h h := ⟨fun _ _ _ => rfl, fun _ _ => rfl⟩
theorem frN_tr {h h' h'' : AH} (p1 : frN h h') (p2 : frN h' h'') : frN h h'' := ⟨fun c k hc => (p2.1 c k hc).trans (p1.1 c k hc), fun c k => (p2.2 c k).trans (p1.2 c k)⟩
theorem frN_t {h h' : AH} {k : Nat} {v : Int32} (hf : frN h h') (hk : 2 ≤ k) : frN h (pI h' 40 k v) := ⟨fun c k' hc => by rw [gI_pI, if_neg (by omega)]; exact hf.1 c k' hc, hf.2⟩
theorem frN_n {h h' : AH} {k : Nat} {v : Int32} (hf : frN h h') : frN h (pI h' 42 k v) := ⟨fun c k' hc => by rw [gI_pI, if_neg (by omega)]; exact hf.1 c k' hc, hf.2⟩
theorem frN_P {h h' : AH} (hf : frN h h') : frP h h' := ⟨fun c k hc => hf.1 c k (by omega), hf.2⟩
theorem frN_B {h h' : AH} (hf : frN h h') : gI h' 41 = gI h 41 := frP_B (frN_P hf)
theorem frN_S {h h' : AH} (hf : frN h h') : gI h' 40 1 = gI h 40 1 := frP_S (frN_P hf)
theorem frN_E {h h' : AH} (hf : frN h h') (hn : cnt (est h 14) ≤ 10) : est h' 14 = est h 14 := est_same (fun k => hf.1 _ _ (by omega)) (fun k => hf.1 _ _ (by omega)) (fun i k hi => hf.1 _ _ (by omega)) hn
theorem gT_t (h : AH) (k k' : Nat) (v : Int32) : gI (pI h 40 k v) 40 k' = if k' = k then v else gI h 40 k' := by
  rw [gI_pI]
  by_cases q : k' = k
  · rw [if_pos ⟨rfl, q⟩, if_pos q]
  · rw [if_neg (fun z => q z.2), if_neg q]
theorem gT_b (h : AH) (k : Nat) (v : Int32) : gI (pI h 40 k v) 41 = gI h 41 := funext fun j => by rw [gI_pI, if_neg (by omega)]
def valB (B : Nat → Int32) (s m : Nat) : Int32 := match m with
  | 0 => 0
  | m + 1 => valB B s m * 10 + B (s + m) - 48
theorem valB_s (B : Nat → Int32) (s m : Nat) : valB B s (m + 1) = valB B s m * 10 + B (s + m) - 48 := rfl
theorem vp250 {i : Nat} (hi : i < 250) : vp_in (nI i) 250 = True := vpN hi (by omega)
def P_X4_value : Sp0T := fun as h K => match as with
  | [.ref c] => c = 40 ∧ ∃ s e : Nat, s ≤ e ∧ e ≤ 250 ∧ gI h 40 2 = nI s ∧ gI h 40 3 = nI e ∧ K (some (.int (valB (gI h 41) s (e - s)))) h
  | _ => False
def S_X4_value : SpT := lift P_X4_value
def L_X4_value_36 : List Item := (36, .iload_n 1, [], nS) :: (37, .ireturn, [], nS) :: []
def L_X4_value_7 : List Item := (7, .iload_n 2, [], nS) :: (8, .aload_n 0, [], nS) :: (9, .getfield 22, [4, 3, 0], nS) :: (12, .if_icmp .ge 24, [36], nS) :: (15, .iload_n 1, [], nS) :: (16, .bipush 10, [], nS) :: (18, .imul, [], nS) :: (19, .aload_n 0, [], nS) :: (20, .getfield 9, [4, 0, 1], nS) :: (23, .iload_n 2, [], nS) :: (24, .iaload, [], nS) :: (25, .iadd, [], nS) :: (26, .bipush 48, [], nS) :: (28, .isub, [], nS) :: (29, .istore_n 1, [], nS) :: (30, .iinc 2 1, [], nS) :: (33, .goto (-26), [7], nS) :: L_X4_value_36
def L_X4_value_0 : List Item := (0, .iconst 0, [], nS) :: (1, .istore_n 1, [], nS) :: (2, .aload_n 0, [], nS) :: (3, .getfield 122, [4, 2, 0], nS) :: (6, .istore_n 2, [], nS) :: (7, .nop, [], nS) :: L_X4_value_7
def L_X4_value : List Item := L_X4_value_0
theorem ok_X4_value : okB cX4_value L_X4_value = true := by decide +kernel
theorem lk_X4_value (l : Launch) : LKs l RX4 1 false L_X4_value := ⟨trivial, trivial, trivial, ⟨_, _, _, rfl, ⟨(RX4, TX4, 6), rfl, by decide, gT_of (List.mem_of_getElem? (i := 139) (by decide +kernel)) rfl⟩, rfl⟩, trivial, trivial, trivial, trivial, ⟨_, _, _, rfl, ⟨(RX4, TX4, 6), rfl, by decide, gT_of (List.mem_of_getElem? (i := 141) (by decide +kernel)) rfl⟩, rfl⟩, trivial, trivial, trivial, trivial, trivial, ⟨_, _, _, rfl, ⟨(RX4, TX4, 6), rfl, by decide, gT_of (List.mem_of_getElem? (i := 136) (by decide +kernel)) rfl⟩, rfl⟩, trivial, trivial, trivial, trivial, trivial, trivial, trivial, trivial, trivial, trivial, trivial⟩
theorem b_X4_value_0 : atL L_X4_value 0 = L_X4_value_0 := rfl
theorem b_X4_value_7 : atL L_X4_value 7 = L_X4_value_7 := rfl
theorem b_X4_value_36 : atL L_X4_value 36 = L_X4_value_36 := rfl
theorem a_X4_value_36 : afw L_X4_value [7] 36 = L_X4_value_36 := rfl
theorem a_X4_value_7 : afw L_X4_value [7] 7 = [] := rfl
theorem yv_X4_value : YV yX4_value cX4_value 3 (some .int) 0 4 := ⟨⟨gT_of (List.mem_of_getElem? (i := 420) (by decide +kernel)) rfl, gT_of (List.mem_of_getElem? (i := 29) (by decide +kernel)) rfl, ⟨by decide, by decide⟩, by decide +kernel, by decide⟩, gT_of (List.mem_of_getElem? (i := 419) (by decide +kernel)) rfl, gT_of (List.mem_of_getElem? (i := 9) (by decide +kernel)) rfl, rfl⟩
theorem u_X4_value_0 : L_X4_value_0 = (0, .iconst 0, [], nS) :: (1, .istore_n 1, [], nS) :: (2, .aload_n 0, [], nS) :: (3, .getfield 122, [4, 2, 0], nS) :: (6, .istore_n 2, [], nS) :: (7, .nop, [], nS) :: L_X4_value_7 := nr rfl
theorem u_X4_value_7 : L_X4_value_7 = (7, .iload_n 2, [], nS) :: (8, .aload_n 0, [], nS) :: (9, .getfield 22, [4, 3, 0], nS) :: (12, .if_icmp .ge 24, [36], nS) :: (15, .iload_n 1, [], nS) :: (16, .bipush 10, [], nS) :: (18, .imul, [], nS) :: (19, .aload_n 0, [], nS) :: (20, .getfield 9, [4, 0, 1], nS) :: (23, .iload_n 2, [], nS) :: (24, .iaload, [], nS) :: (25, .iadd, [], nS) :: (26, .bipush 48, [], nS) :: (28, .isub, [], nS) :: (29, .istore_n 1, [], nS) :: (30, .iinc 2 1, [], nS) :: (33, .goto (-26), [7], nS) :: L_X4_value_36 := nr rfl
theorem u_X4_value_36 : L_X4_value_36 = (36, .iload_n 1, [], nS) :: (37, .ireturn, [], nS) :: [] := nr rfl
theorem z_X4_value_0 : atL L_X4_value 0 = L_X4_value_0 := nr rfl
theorem z_X4_value_7 : atL L_X4_value 7 = L_X4_value_7 := nr rfl
theorem z_X4_value_36 : atL L_X4_value 36 = L_X4_value_36 := nr rfl
theorem j_X4_value_36 {G : List Item → SpS → List Value → List Value → AH → Prop} {J : Nat → SpS → List Value → List Value → AH → Prop} {S : SpS} {lv st : List Value} {h : AH} : jmp G J (afw L_X4_value [7] 36) 36 S lv st h = G L_X4_value_36 S lv st h := nr rfl
theorem j_X4_value_7 {G : List Item → SpS → List Value → List Value → AH → Prop} {J : Nat → SpS → List Value → List Value → AH → Prop} {S : SpS} {lv st : List Value} {h : AH} : jmp G J (afw L_X4_value [7] 7) 7 S lv st h = J 7 S lv st h := nr rfl
theorem e_X4_value {c : Addr} {h : AH} {K2 : Option Value → SpS → AH → Prop} : S_X4_value (SHn nn) [.ref c] h K2 = (fun (K : Option Value → AH → Prop) => c = 40 ∧ ∃ s e : Nat, s ≤ e ∧ e ≤ 250 ∧ gI h 40 2 = nI s ∧ gI h 40 3 = nI e ∧ K (some (.int (valB (gI h 41) s (e - s)))) h) (fun v h' => K2 v (SHn nn) h') := (lift_e P_X4_value [.ref c] h K2).trans (nr rfl)
set_option maxRecDepth 100000 in
set_option maxHeartbeats 4000000 in
theorem c_X4_value (l : Launch) : Ct l yX4_value cX4_value 3 (some .int) 1 0 0 S_X4_value := by
  refine Ct0_mk L_X4_value [7] (by decide +kernel) (by decide) ok_X4_value (lk_X4_value l) ?_
  intro nn as h K hP
  match as, hP with
  | [.ref c], ⟨hc, s, e, hse, he, g2, g3_, hK⟩ =>
  refine ⟨by simp [slotsN, Value.category], fun J hJ => ?_⟩
  subst hc
  refine hJ 0 _ _ _ _ ?_
  simp only [z_X4_value_0, u_X4_value_0, u_X4_value_7, u_X4_value_36, j_X4_value_7, j_X4_value_36, ev_iconst, ev_istore_n1, ev_aload_n0, ev_getfI, ev_istore_n2, ev_nop, ev_iload_n2, ev_ic_ge, ev_iload_n1, ev_bipush, ev_imul, ev_getfR, ev_iaload, ev_iadd, ev_isub, ev_iinc2, ev_goto, ev_iret, ro_i, ro_z, capO_z, kb_6, kb_11, kb_13, kb_15, kb_17, kb_18, kb_19, kb_23, kb_24, kb_25, kb_26, kb_29, kb_31, kb_35, kb_37, kb_41, kb_43, kb_44, kb_61, kb_75, kb_104, kb_7, kb_8, kb_9, kb_10, kb_12, kb_16, kb_20, kb_21, kb_30, kb_32, kb_40, kb_48, kb_50, kb_57, kb_59, kb_60, kb_63, kb_70, kb_78, kb_81, kb_82, kb_84, kb_97, kb_99, kb_100, kb_101, kb_119, kb_120, kb_122, ki_m1, ki_0, ki_1, ki_2, ki_3, ki_4, ki_5, ki_6, ki_7, ki_8, ki_9, ki_10, ki_11, ki_12, ki_13, ki_14, ki_15, ki_16, ki_17, ki_18, ki_19, ki_20, ki_21, ki_22, ki_23, ki_24, ki_25, ki_26, ki_27, ki_28, ki_29, ki_30, ki_31, ki_32, ki_33, ki_34, ki_35, ki_36, ki_37, ki_38, ki_39, ki_40, ki_41, ki_42, ki_43, ki_44, ki_45, ki_46, ki_47, ki_48, ki_49, ki_50, ki_51, ki_52, ki_53, ki_54, ki_55, ki_56, ki_57, ki_58, ki_59, ki_60, ki_61, ki_62, ki_63, ks_m2000, ks_m1006, ks_m1005, ks_m1004, ks_m1003, ks_m1002, ks_m1000, ks_200, ks_201, ks_300, ks_720, ks_9000, ks_10000, ks_250, ks_255, ks_256, ks_320, ks_660, ks_999, ks_1000, ks_9999, ks_12345, ne_2, ne_10, t_0, t_40, t_41, t_42, t_43, t_44, t_45, t_46, t_47, r_0_0, r_0_1, r_0_2, r_0_4, r_0_5, r_0_6, r_0_7, r_40_0, r_40_5, r_44_0, r_44_1, t_1, t_14, t_27, t_2, t_15, t_28, t_64, Nat.reduceEqDiff, ne_eq, not_false_eq_true, false_implies, true_implies, implies_true, Nat.reduceAdd, Nat.reduceLeDiff, Nat.reduceLT, Nat.reduceMul, or_true, true_or, if_true, if_false, not_true_eq_false, and_self, bF, Nat.reduceBEq, Bool.false_and, Bool.and_false, Bool.or_self, Bool.or_false, Bool.false_or, Bool.false_eq_true, Int.reduceAdd, Bool.and_self, Bool.true_and, Bool.and_true, beq_self_eq_true, not_not_, i10_, i01_, List.length_nil, List.length_cons, true_and, and_true, false_and, and_false, kl_i, kl_a, kl_n, kl_l, tl_s, tl_n, rv_S, pd_0, pd_e, pd_r, pd_i, pd_l, g2]
  refine dn (P := fun a => J 7 (SHn nn) [.ref 40, .int (valB (gI h 41) s a), .int (nI (s + a))] [] h) (e - s) ?_ (fun a ha ih => ?_)
  · rw [show s + (e - s) = e by omega]
    refine hJ 7 _ _ _ _ ?_
    simp only [z_X4_value_7, u_X4_value_0, u_X4_value_7, u_X4_value_36, j_X4_value_7, j_X4_value_36, ev_iconst, ev_istore_n1, ev_aload_n0, ev_getfI, ev_istore_n2, ev_nop, ev_iload_n2, ev_ic_ge, ev_iload_n1, ev_bipush, ev_imul, ev_getfR, ev_iaload, ev_iadd, ev_isub, ev_iinc2, ev_goto, ev_iret, ro_i, ro_z, capO_z, kb_6, kb_11, kb_13, kb_15, kb_17, kb_18, kb_19, kb_23, kb_24, kb_25, kb_26, kb_29, kb_31, kb_35, kb_37, kb_41, kb_43, kb_44, kb_61, kb_75, kb_104, kb_7, kb_8, kb_9, kb_10, kb_12, kb_16, kb_20, kb_21, kb_30, kb_32, kb_40, kb_48, kb_50, kb_57, kb_59, kb_60, kb_63, kb_70, kb_78, kb_81, kb_82, kb_84, kb_97, kb_99, kb_100, kb_101, kb_119, kb_120, kb_122, ki_m1, ki_0, ki_1, ki_2, ki_3, ki_4, ki_5, ki_6, ki_7, ki_8, ki_9, ki_10, ki_11, ki_12, ki_13, ki_14, ki_15, ki_16, ki_17, ki_18, ki_19, ki_20, ki_21, ki_22, ki_23, ki_24, ki_25, ki_26, ki_27, ki_28, ki_29, ki_30, ki_31, ki_32, ki_33, ki_34, ki_35, ki_36, ki_37, ki_38, ki_39, ki_40, ki_41, ki_42, ki_43, ki_44, ki_45, ki_46, ki_47, ki_48, ki_49, ki_50, ki_51, ki_52, ki_53, ki_54, ki_55, ki_56, ki_57, ki_58, ki_59, ki_60, ki_61, ki_62, ki_63, ks_m2000, ks_m1006, ks_m1005, ks_m1004, ks_m1003, ks_m1002, ks_m1000, ks_200, ks_201, ks_300, ks_720, ks_9000, ks_10000, ks_250, ks_255, ks_256, ks_320, ks_660, ks_999, ks_1000, ks_9999, ks_12345, ne_2, ne_10, t_0, t_40, t_41, t_42, t_43, t_44, t_45, t_46, t_47, r_0_0, r_0_1, r_0_2, r_0_4, r_0_5, r_0_6, r_0_7, r_40_0, r_40_5, r_44_0, r_44_1, t_1, t_14, t_27, t_2, t_15, t_28, t_64, Nat.reduceEqDiff, ne_eq, not_false_eq_true, false_implies, true_implies, implies_true, Nat.reduceAdd, Nat.reduceLeDiff, Nat.reduceLT, Nat.reduceMul, or_true, true_or, if_true, if_false, not_true_eq_false, and_self, bF, Nat.reduceBEq, Bool.false_and, Bool.and_false, Bool.or_self, Bool.or_false, Bool.false_or, Bool.false_eq_true, Int.reduceAdd, Bool.and_self, Bool.true_and, Bool.and_true, beq_self_eq_true, not_not_, i10_, i01_, List.length_nil, List.length_cons, true_and, and_true, false_and, and_false, kl_i, kl_a, kl_n, kl_l, tl_s, tl_n, rv_S, pd_0, pd_e, pd_r, pd_i, pd_l, g3_, lpT (show e < 2147483648 by omega)]
    exact hK
  · refine hJ 7 _ _ _ _ ?_
    simp only [z_X4_value_7, u_X4_value_0, u_X4_value_7, u_X4_value_36, j_X4_value_7, j_X4_value_36, ev_iconst, ev_istore_n1, ev_aload_n0, ev_getfI, ev_istore_n2, ev_nop, ev_iload_n2, ev_ic_ge, ev_iload_n1, ev_bipush, ev_imul, ev_getfR, ev_iaload, ev_iadd, ev_isub, ev_iinc2, ev_goto, ev_iret, ro_i, ro_z, capO_z, kb_6, kb_11, kb_13, kb_15, kb_17, kb_18, kb_19, kb_23, kb_24, kb_25, kb_26, kb_29, kb_31, kb_35, kb_37, kb_41, kb_43, kb_44, kb_61, kb_75, kb_104, kb_7, kb_8, kb_9, kb_10, kb_12, kb_16, kb_20, kb_21, kb_30, kb_32, kb_40, kb_48, kb_50, kb_57, kb_59, kb_60, kb_63, kb_70, kb_78, kb_81, kb_82, kb_84, kb_97, kb_99, kb_100, kb_101, kb_119, kb_120, kb_122, ki_m1, ki_0, ki_1, ki_2, ki_3, ki_4, ki_5, ki_6, ki_7, ki_8, ki_9, ki_10, ki_11, ki_12, ki_13, ki_14, ki_15, ki_16, ki_17, ki_18, ki_19, ki_20, ki_21, ki_22, ki_23, ki_24, ki_25, ki_26, ki_27, ki_28, ki_29, ki_30, ki_31, ki_32, ki_33, ki_34, ki_35, ki_36, ki_37, ki_38, ki_39, ki_40, ki_41, ki_42, ki_43, ki_44, ki_45, ki_46, ki_47, ki_48, ki_49, ki_50, ki_51, ki_52, ki_53, ki_54, ki_55, ki_56, ki_57, ki_58, ki_59, ki_60, ki_61, ki_62, ki_63, ks_m2000, ks_m1006, ks_m1005, ks_m1004, ks_m1003, ks_m1002, ks_m1000, ks_200, ks_201, ks_300, ks_720, ks_9000, ks_10000, ks_250, ks_255, ks_256, ks_320, ks_660, ks_999, ks_1000, ks_9999, ks_12345, ne_2, ne_10, t_0, t_40, t_41, t_42, t_43, t_44, t_45, t_46, t_47, r_0_0, r_0_1, r_0_2, r_0_4, r_0_5, r_0_6, r_0_7, r_40_0, r_40_5, r_44_0, r_44_1, t_1, t_14, t_27, t_2, t_15, t_28, t_64, Nat.reduceEqDiff, ne_eq, not_false_eq_true, false_implies, true_implies, implies_true, Nat.reduceAdd, Nat.reduceLeDiff, Nat.reduceLT, Nat.reduceMul, or_true, true_or, if_true, if_false, not_true_eq_false, and_self, bF, Nat.reduceBEq, Bool.false_and, Bool.and_false, Bool.or_self, Bool.or_false, Bool.false_or, Bool.false_eq_true, Int.reduceAdd, Bool.and_self, Bool.true_and, Bool.and_true, beq_self_eq_true, not_not_, i10_, i01_, List.length_nil, List.length_cons, true_and, and_true, false_and, and_false, kl_i, kl_a, kl_n, kl_l, tl_s, tl_n, rv_S, pd_0, pd_e, pd_r, pd_i, pd_l, g3_, lpF (show s + a < e by omega) (show e < 2147483648 by omega), vp250 (show s + a < 250 by omega), nI_clamp (show s + a < 2 ^ 31 by omega), nI_1]
    rw [valB_s, ← Nat.add_assoc] at ih
    exact ih
abbrev numB (B : Nat → Int32) (T : Nat × Nat × Int32) (m : Int32) : Prop := T.2.2 = 1 ∧ T.2.1 - T.1 ≤ 3 ∧ valB B T.1 (T.2.1 - T.1) ≤ m
def P_X4_isNumberUpTo : Sp0T := fun as h K => match as with
  | [.ref c, .int m] => c = 40 ∧ ∃ T : Nat × Nat × Int32, T.1 ≤ T.2.1 ∧ T.2.1 ≤ 250 ∧ tokAt h T ∧ (numB (gI h 41) T m → K (some (.int 1)) h) ∧ (¬ numB (gI h 41) T m → K (some (.int 0)) h)
  | _ => False
def S_X4_isNumberUpTo : SpT := lift P_X4_isNumberUpTo
def L_X4_isNumberUpTo_34 : List Item := (34, .ireturn, [], nS) :: []
def L_X4_isNumberUpTo_33 : List Item := (33, .iconst 0, [], nS) :: L_X4_isNumberUpTo_34
def L_X4_isNumberUpTo_0 : List Item := (0, .aload_n 0, [], nS) :: (1, .getfield 32, [4, 4, 0], nS) :: (4, .iconst 1, [], nS) :: (5, .if_icmp .ne 28, [33], nS) :: (8, .aload_n 0, [], nS) :: (9, .getfield 22, [4, 3, 0], nS) :: (12, .aload_n 0, [], nS) :: (13, .getfield 122, [4, 2, 0], nS) :: (16, .isub, [], nS) :: (17, .iconst 3, [], nS) :: (18, .if_icmp .gt 15, [33], nS) :: (21, .aload_n 0, [], nS) :: (22, .invokevirtual 60, [0, 4, 0, 0], S_X4_value) :: (25, .iload_n 1, [], nS) :: (26, .if_icmp .gt 7, [33], nS) :: (29, .iconst 1, [], nS) :: (30, .goto 4, [34], nS) :: L_X4_isNumberUpTo_33
def L_X4_isNumberUpTo : List Item := L_X4_isNumberUpTo_0
theorem ok_X4_isNumberUpTo : okB cX4_isNumberUpTo L_X4_isNumberUpTo = true := by decide +kernel
theorem lk_X4_isNumberUpTo (l : Launch) : LKs l RX4 2 false L_X4_isNumberUpTo := ⟨trivial, ⟨_, _, _, rfl, ⟨(RX4, TX4, 6), rfl, by decide, gT_of (List.mem_of_getElem? (i := 142) (by decide +kernel)) rfl⟩, rfl⟩, trivial, trivial, trivial, ⟨_, _, _, rfl, ⟨(RX4, TX4, 6), rfl, by decide, gT_of (List.mem_of_getElem? (i := 141) (by decide +kernel)) rfl⟩, rfl⟩, trivial, ⟨_, _, _, rfl, ⟨(RX4, TX4, 6), rfl, by decide, gT_of (List.mem_of_getElem? (i := 139) (by decide +kernel)) rfl⟩, rfl⟩, trivial, trivial, trivial, trivial, ⟨_, _, _, _, _, _, _, _, _, rfl, c_X4_value l, Or.inl ⟨by decide, yv_X4_value⟩, by decide, gT_of (List.mem_of_getElem? (i := 417) (by decide +kernel)) rfl⟩, trivial, trivial, trivial, trivial, trivial, trivial, trivial⟩
theorem b_X4_isNumberUpTo_0 : atL L_X4_isNumberUpTo 0 = L_X4_isNumberUpTo_0 := rfl
theorem b_X4_isNumberUpTo_33 : atL L_X4_isNumberUpTo 33 = L_X4_isNumberUpTo_33 := rfl
theorem b_X4_isNumberUpTo_34 : atL L_X4_isNumberUpTo 34 = L_X4_isNumberUpTo_34 := rfl
theorem a_X4_isNumberUpTo_33 : afw L_X4_isNumberUpTo [] 33 = L_X4_isNumberUpTo_33 := rfl
theorem a_X4_isNumberUpTo_34 : afw L_X4_isNumberUpTo [] 34 = L_X4_isNumberUpTo_34 := rfl
theorem yv_X4_isNumberUpTo : YV yX4_isNumberUpTo cX4_isNumberUpTo 2 (some .boolean) 1 4 := ⟨⟨gT_of (List.mem_of_getElem? (i := 416) (by decide +kernel)) rfl, gT_of (List.mem_of_getElem? (i := 29) (by decide +kernel)) rfl, ⟨by decide, by decide⟩, by decide +kernel, by decide⟩, gT_of (List.mem_of_getElem? (i := 415) (by decide +kernel)) rfl, gT_of (List.mem_of_getElem? (i := 8) (by decide +kernel)) rfl, rfl⟩
theorem u_X4_isNumberUpTo_0 : L_X4_isNumberUpTo_0 = (0, .aload_n 0, [], nS) :: (1, .getfield 32, [4, 4, 0], nS) :: (4, .iconst 1, [], nS) :: (5, .if_icmp .ne 28, [33], nS) :: (8, .aload_n 0, [], nS) :: (9, .getfield 22, [4, 3, 0], nS) :: (12, .aload_n 0, [], nS) :: (13, .getfield 122, [4, 2, 0], nS) :: (16, .isub, [], nS) :: (17, .iconst 3, [], nS) :: (18, .if_icmp .gt 15, [33], nS) :: (21, .aload_n 0, [], nS) :: (22, .invokevirtual 60, [0, 4, 0, 0], S_X4_value) :: (25, .iload_n 1, [], nS) :: (26, .if_icmp .gt 7, [33], nS) :: (29, .iconst 1, [], nS) :: (30, .goto 4, [34], nS) :: L_X4_isNumberUpTo_33 := nr rfl
theorem u_X4_isNumberUpTo_33 : L_X4_isNumberUpTo_33 = (33, .iconst 0, [], nS) :: L_X4_isNumberUpTo_34 := nr rfl
theorem u_X4_isNumberUpTo_34 : L_X4_isNumberUpTo_34 = (34, .ireturn, [], nS) :: [] := nr rfl
theorem z_X4_isNumberUpTo_0 : atL L_X4_isNumberUpTo 0 = L_X4_isNumberUpTo_0 := nr rfl
theorem z_X4_isNumberUpTo_33 : atL L_X4_isNumberUpTo 33 = L_X4_isNumberUpTo_33 := nr rfl
theorem z_X4_isNumberUpTo_34 : atL L_X4_isNumberUpTo 34 = L_X4_isNumberUpTo_34 := nr rfl
theorem j_X4_isNumberUpTo_33 {G : List Item → SpS → List Value → List Value → AH → Prop} {J : Nat → SpS → List Value → List Value → AH → Prop} {S : SpS} {lv st : List Value} {h : AH} : jmp G J (afw L_X4_isNumberUpTo [] 33) 33 S lv st h = G L_X4_isNumberUpTo_33 S lv st h := nr rfl
theorem j_X4_isNumberUpTo_34 {G : List Item → SpS → List Value → List Value → AH → Prop} {J : Nat → SpS → List Value → List Value → AH → Prop} {S : SpS} {lv st : List Value} {h : AH} : jmp G J (afw L_X4_isNumberUpTo [] 34) 34 S lv st h = G L_X4_isNumberUpTo_34 S lv st h := nr rfl
theorem e_X4_isNumberUpTo {c : Addr} {m : Int32} {h : AH} {K2 : Option Value → SpS → AH → Prop} : S_X4_isNumberUpTo (SHn nn) [.ref c, .int m] h K2 = (fun (K : Option Value → AH → Prop) => c = 40 ∧ ∃ T : Nat × Nat × Int32, T.1 ≤ T.2.1 ∧ T.2.1 ≤ 250 ∧ tokAt h T ∧ (numB (gI h 41) T m → K (some (.int 1)) h) ∧ (¬ numB (gI h 41) T m → K (some (.int 0)) h)) (fun v h' => K2 v (SHn nn) h') := (lift_e P_X4_isNumberUpTo [.ref c, .int m] h K2).trans (nr rfl)
set_option maxRecDepth 100000 in
set_option maxHeartbeats 4000000 in
theorem c_X4_isNumberUpTo (l : Launch) : Ct l yX4_isNumberUpTo cX4_isNumberUpTo 2 (some .boolean) 2 0 0 S_X4_isNumberUpTo := by
  refine Ct0_mk L_X4_isNumberUpTo [] (by decide +kernel) (by decide) ok_X4_isNumberUpTo (lk_X4_isNumberUpTo l) ?_
  intro nn as h K hP
  match as, hP with
  | [.ref c, .int m], ⟨hc, T, hse, he, ⟨g2, g3_, g4⟩, hK1, hK2⟩ =>
  refine ⟨by simp [slotsN, Value.category], fun J hJ => ?_⟩
  subst hc
  obtain ⟨s, e, t⟩ := T
  dsimp only at hse he g2 g3_ g4 hK1 hK2
  unfold numB at hK1 hK2
  dsimp only at hK1 hK2
  have es : nI e - nI s = nI (e - s) := by
    rw [← Int32.toInt_inj, Int32.toInt_sub, nI_toInt (show e < 2147483648 by omega), nI_toInt (show s < 2147483648 by omega), nI_toInt (show e - s < 2147483648 by omega), Int.bmod_eq_of_le (by omega) (by omega)]
    omega
  have e3 : ((3 : Int32) < nI (e - s)) = (3 < e - s) := lt_nI (a := 3) (by omega) (by omega)
  refine hJ 0 _ _ _ _ ?_
  simp only [z_X4_isNumberUpTo_0, u_X4_isNumberUpTo_0, u_X4_isNumberUpTo_33, u_X4_isNumberUpTo_34, j_X4_isNumberUpTo_33, j_X4_isNumberUpTo_34, ev_aload_n0, ev_getfI, ev_iconst, ev_ic_ne, ev_isub, ev_ic_gt, ev_callV0, ev_iload_n1, ev_goto, ev_iret, ro_i, ro_z, ↓e_X4_value, capO_z, kb_6, kb_11, kb_13, kb_15, kb_17, kb_18, kb_19, kb_23, kb_24, kb_25, kb_26, kb_29, kb_31, kb_35, kb_37, kb_41, kb_43, kb_44, kb_61, kb_75, kb_104, kb_7, kb_8, kb_9, kb_10, kb_12, kb_16, kb_20, kb_21, kb_30, kb_32, kb_40, kb_48, kb_50, kb_57, kb_59, kb_60, kb_63, kb_70, kb_78, kb_81, kb_82, kb_84, kb_97, kb_99, kb_100, kb_101, kb_119, kb_120, kb_122, ki_m1, ki_0, ki_1, ki_2, ki_3, ki_4, ki_5, ki_6, ki_7, ki_8, ki_9, ki_10, ki_11, ki_12, ki_13, ki_14, ki_15, ki_16, ki_17, ki_18, ki_19, ki_20, ki_21, ki_22, ki_23, ki_24, ki_25, ki_26, ki_27, ki_28, ki_29, ki_30, ki_31, ki_32, ki_33, ki_34, ki_35, ki_36, ki_37, ki_38, ki_39, ki_40, ki_41, ki_42, ki_43, ki_44, ki_45, ki_46, ki_47, ki_48, ki_49, ki_50, ki_51, ki_52, ki_53, ki_54, ki_55, ki_56, ki_57, ki_58, ki_59, ki_60, ki_61, ki_62, ki_63, ks_m2000, ks_m1006, ks_m1005, ks_m1004, ks_m1003, ks_m1002, ks_m1000, ks_200, ks_201, ks_300, ks_720, ks_9000, ks_10000, ks_250, ks_255, ks_256, ks_320, ks_660, ks_999, ks_1000, ks_9999, ks_12345, ne_2, ne_10, t_0, t_40, t_41, t_42, t_43, t_44, t_45, t_46, t_47, r_0_0, r_0_1, r_0_2, r_0_4, r_0_5, r_0_6, r_0_7, r_40_0, r_40_5, r_44_0, r_44_1, t_1, t_14, t_27, t_2, t_15, t_28, t_64, Nat.reduceEqDiff, ne_eq, not_false_eq_true, false_implies, true_implies, implies_true, Nat.reduceAdd, Nat.reduceLeDiff, Nat.reduceLT, Nat.reduceMul, or_true, true_or, if_true, if_false, not_true_eq_false, and_self, bF, Nat.reduceBEq, Bool.false_and, Bool.and_false, Bool.or_self, Bool.or_false, Bool.false_or, Bool.false_eq_true, Int.reduceAdd, Bool.and_self, Bool.true_and, Bool.and_true, beq_self_eq_true, not_not_, i10_, i01_, List.length_nil, List.length_cons, true_and, and_true, false_and, and_false, kl_i, kl_a, kl_n, kl_l, tl_s, tl_n, rv_S, pd_0, pd_e, pd_r, pd_i, pd_l, g2, g3_, g4, es, e3, one_z, zero_z]
  refine ⟨fun q => hK2 (fun z => q z.1), fun q => ⟨fun q2 => hK2 (fun z => by omega), fun q2 => ?_⟩⟩
  refine ⟨s, e, hse, he, rfl, rfl, fun q3 => hK2 (fun z => absurd z.2.2 (Int32.not_le.mpr q3)), fun q3 => hK1 ⟨q, by omega, Int32.not_lt.mp q3⟩⟩
def allN (n : Nat) (f : Nat → Bool) : Bool := match n with
  | 0 => true
  | n + 1 => allN n f && f n
theorem allN_e (f : Nat → Bool) : ∀ n, allN n f = true ↔ ∀ k, k < n → f k = true
  | 0 => ⟨fun _ k hk => absurd hk (Nat.not_lt_zero k), fun _ => rfl⟩
  | n + 1 => by
    unfold allN
    rw [Bool.and_eq_true, allN_e f n]
    refine ⟨fun q k hk => ?_, fun q => ⟨fun k hk => q k (by omega), q n (by omega)⟩⟩
    by_cases z : k < n
    · exact q.1 k z
    · rw [show k = n by omega]; exact q.2
def spB (B : Nat → Int32) (s e i : Nat) : Bool := decide (lenJ.getD i 0 = e - s) && allN (lenJ.getD i 0) (fun k => decide (B (s + k) = chJ i k))
theorem spB_y {B : Nat → Int32} {s e i : Nat} : spB B s e i = true ↔ lenJ.getD i 0 = e - s ∧ ∀ k, k < lenJ.getD i 0 → B (s + k) = chJ i k := by
  unfold spB
  rw [Bool.and_eq_true, decide_eq_true_eq, allN_e]
  simp only [decide_eq_true_eq]
theorem str7 {i : Nat} (hi : i < 7) : (100000 ≤ 100000 + i ∧ 100000 + i < 100007) = True := eq_true ⟨by omega, by omega⟩
theorem nI_sub {s e : Nat} (h : s ≤ e) (he : e < 2147483648) : nI e - nI s = nI (e - s) := by
  rw [← Int32.toInt_inj, Int32.toInt_sub, nI_toInt (show e < 2147483648 by omega), nI_toInt (show s < 2147483648 by omega), nI_toInt (show e - s < 2147483648 by omega), Int.bmod_eq_of_le (by omega) (by omega)]
  omega
theorem nI_inj {a b : Nat} (ha : a < 2147483648) (hb : b < 2147483648) : (nI a = nI b) = (a = b) := by
  refine propext ⟨fun q => ?_, fun q => by rw [q]⟩
  have := congrArg Int32.toNatClampNeg q
  rw [nI_clamp ha, nI_clamp hb] at this
  exact this
theorem nI_ad (s k : Nat) : nI s + nI k = nI (s + k) := nI_add s k
def P_X4_isSpelled : Sp0T := fun as h K => match as with
  | [.ref c, .ref r] => c = 40 ∧ ∃ i s e : Nat, i < 7 ∧ r = 100000 + i ∧ s ≤ e ∧ e ≤ 250 ∧ gI h 40 2 = nI s ∧ gI h 40 3 = nI e ∧ (spB (gI h 41) s e i = true → K (some (.int 1)) h) ∧ (¬ spB (gI h 41) s e i = true → K (some (.int 0)) h)
  | _ => False
def S_X4_isSpelled : SpT := lift P_X4_isSpelled
def L_X4_isSpelled_55 : List Item := (55, .iconst 1, [], nS) :: (56, .ireturn, [], nS) :: []
def L_X4_isSpelled_49 : List Item := (49, .iinc 2 1, [], nS) :: (52, .goto (-32), [20], nS) :: L_X4_isSpelled_55
def L_X4_isSpelled_20 : List Item := (20, .iload_n 2, [], nS) :: (21, .aload_n 1, [], nS) :: (22, .invokevirtual 117, [0, 100, 0, 0], S_J0_length_8abf5) :: (25, .if_icmp .ge 30, [55], nS) :: (28, .aload_n 0, [], nS) :: (29, .getfield 9, [4, 0, 1], nS) :: (32, .aload_n 0, [], nS) :: (33, .getfield 122, [4, 2, 0], nS) :: (36, .iload_n 2, [], nS) :: (37, .iadd, [], nS) :: (38, .iaload, [], nS) :: (39, .aload_n 1, [], nS) :: (40, .iload_n 2, [], nS) :: (41, .invokevirtual 125, [1, 100, 0, 0], S_J0_charAt_5068e) :: (44, .if_icmp .eq 5, [49], nS) :: (47, .iconst 0, [], nS) :: (48, .ireturn, [], nS) :: L_X4_isSpelled_49
def L_X4_isSpelled_18 : List Item := (18, .iconst 0, [], nS) :: (19, .istore_n 2, [], nS) :: (20, .nop, [], nS) :: L_X4_isSpelled_20
def L_X4_isSpelled_0 : List Item := (0, .aload_n 1, [], nS) :: (1, .invokevirtual 117, [0, 100, 0, 0], S_J0_length_8abf5) :: (4, .aload_n 0, [], nS) :: (5, .getfield 22, [4, 3, 0], nS) :: (8, .aload_n 0, [], nS) :: (9, .getfield 122, [4, 2, 0], nS) :: (12, .isub, [], nS) :: (13, .if_icmp .eq 5, [18], nS) :: (16, .iconst 0, [], nS) :: (17, .ireturn, [], nS) :: L_X4_isSpelled_18
def L_X4_isSpelled : List Item := L_X4_isSpelled_0
theorem ok_X4_isSpelled : okB cX4_isSpelled L_X4_isSpelled = true := by decide +kernel
theorem lk_X4_isSpelled (l : Launch) : LKs l RX4 6 false L_X4_isSpelled := ⟨trivial, ⟨_, _, _, _, _, _, _, _, _, rfl, c_J0_length_8abf5 l, Or.inr ⟨rfl, yv_J0_length_8abf5⟩, by decide, gT_of (List.mem_of_getElem? (i := 349) (by decide +kernel)) rfl⟩, trivial, ⟨_, _, _, rfl, ⟨(RX4, TX4, 6), rfl, by decide, gT_of (List.mem_of_getElem? (i := 141) (by decide +kernel)) rfl⟩, rfl⟩, trivial, ⟨_, _, _, rfl, ⟨(RX4, TX4, 6), rfl, by decide, gT_of (List.mem_of_getElem? (i := 139) (by decide +kernel)) rfl⟩, rfl⟩, trivial, trivial, trivial, trivial, trivial, trivial, trivial, trivial, trivial, ⟨_, _, _, _, _, _, _, _, _, rfl, c_J0_length_8abf5 l, Or.inr ⟨rfl, yv_J0_length_8abf5⟩, by decide, gT_of (List.mem_of_getElem? (i := 349) (by decide +kernel)) rfl⟩, trivial, trivial, ⟨_, _, _, rfl, ⟨(RX4, TX4, 6), rfl, by decide, gT_of (List.mem_of_getElem? (i := 136) (by decide +kernel)) rfl⟩, rfl⟩, trivial, ⟨_, _, _, rfl, ⟨(RX4, TX4, 6), rfl, by decide, gT_of (List.mem_of_getElem? (i := 139) (by decide +kernel)) rfl⟩, rfl⟩, trivial, trivial, trivial, trivial, trivial, ⟨_, _, _, _, _, _, _, _, _, rfl, c_J0_charAt_5068e l, Or.inr ⟨rfl, yv_J0_charAt_5068e⟩, by decide, gT_of (List.mem_of_getElem? (i := 359) (by decide +kernel)) rfl⟩, trivial, trivial, trivial, trivial, trivial, trivial, trivial, trivial⟩
theorem b_X4_isSpelled_0 : atL L_X4_isSpelled 0 = L_X4_isSpelled_0 := rfl
theorem b_X4_isSpelled_18 : atL L_X4_isSpelled 18 = L_X4_isSpelled_18 := rfl
theorem b_X4_isSpelled_20 : atL L_X4_isSpelled 20 = L_X4_isSpelled_20 := rfl
theorem b_X4_isSpelled_49 : atL L_X4_isSpelled 49 = L_X4_isSpelled_49 := rfl
theorem b_X4_isSpelled_55 : atL L_X4_isSpelled 55 = L_X4_isSpelled_55 := rfl
theorem a_X4_isSpelled_18 : afw L_X4_isSpelled [20] 18 = L_X4_isSpelled_18 := rfl
theorem a_X4_isSpelled_49 : afw L_X4_isSpelled [20] 49 = L_X4_isSpelled_49 := rfl
theorem a_X4_isSpelled_55 : afw L_X4_isSpelled [20] 55 = L_X4_isSpelled_55 := rfl
theorem a_X4_isSpelled_20 : afw L_X4_isSpelled [20] 20 = [] := rfl
theorem yv_X4_isSpelled : YV yX4_isSpelled cX4_isSpelled 3 (some .boolean) 1 4 := ⟨⟨gT_of (List.mem_of_getElem? (i := 348) (by decide +kernel)) rfl, gT_of (List.mem_of_getElem? (i := 29) (by decide +kernel)) rfl, ⟨by decide, by decide⟩, by decide +kernel, by decide⟩, gT_of (List.mem_of_getElem? (i := 347) (by decide +kernel)) rfl, gT_of (List.mem_of_getElem? (i := 7) (by decide +kernel)) rfl, rfl⟩
theorem u_X4_isSpelled_0 : L_X4_isSpelled_0 = (0, .aload_n 1, [], nS) :: (1, .invokevirtual 117, [0, 100, 0, 0], S_J0_length_8abf5) :: (4, .aload_n 0, [], nS) :: (5, .getfield 22, [4, 3, 0], nS) :: (8, .aload_n 0, [], nS) :: (9, .getfield 122, [4, 2, 0], nS) :: (12, .isub, [], nS) :: (13, .if_icmp .eq 5, [18], nS) :: (16, .iconst 0, [], nS) :: (17, .ireturn, [], nS) :: L_X4_isSpelled_18 := nr rfl
theorem u_X4_isSpelled_18 : L_X4_isSpelled_18 = (18, .iconst 0, [], nS) :: (19, .istore_n 2, [], nS) :: (20, .nop, [], nS) :: L_X4_isSpelled_20 := nr rfl
theorem u_X4_isSpelled_20 : L_X4_isSpelled_20 = (20, .iload_n 2, [], nS) :: (21, .aload_n 1, [], nS) :: (22, .invokevirtual 117, [0, 100, 0, 0], S_J0_length_8abf5) :: (25, .if_icmp .ge 30, [55], nS) :: (28, .aload_n 0, [], nS) :: (29, .getfield 9, [4, 0, 1], nS) :: (32, .aload_n 0, [], nS) :: (33, .getfield 122, [4, 2, 0], nS) :: (36, .iload_n 2, [], nS) :: (37, .iadd, [], nS) :: (38, .iaload, [], nS) :: (39, .aload_n 1, [], nS) :: (40, .iload_n 2, [], nS) :: (41, .invokevirtual 125, [1, 100, 0, 0], S_J0_charAt_5068e) :: (44, .if_icmp .eq 5, [49], nS) :: (47, .iconst 0, [], nS) :: (48, .ireturn, [], nS) :: L_X4_isSpelled_49 := nr rfl
theorem u_X4_isSpelled_49 : L_X4_isSpelled_49 = (49, .iinc 2 1, [], nS) :: (52, .goto (-32), [20], nS) :: L_X4_isSpelled_55 := nr rfl
theorem u_X4_isSpelled_55 : L_X4_isSpelled_55 = (55, .iconst 1, [], nS) :: (56, .ireturn, [], nS) :: [] := nr rfl
theorem z_X4_isSpelled_0 : atL L_X4_isSpelled 0 = L_X4_isSpelled_0 := nr rfl
theorem z_X4_isSpelled_18 : atL L_X4_isSpelled 18 = L_X4_isSpelled_18 := nr rfl
theorem z_X4_isSpelled_20 : atL L_X4_isSpelled 20 = L_X4_isSpelled_20 := nr rfl
theorem z_X4_isSpelled_49 : atL L_X4_isSpelled 49 = L_X4_isSpelled_49 := nr rfl
theorem z_X4_isSpelled_55 : atL L_X4_isSpelled 55 = L_X4_isSpelled_55 := nr rfl
theorem j_X4_isSpelled_18 {G : List Item → SpS → List Value → List Value → AH → Prop} {J : Nat → SpS → List Value → List Value → AH → Prop} {S : SpS} {lv st : List Value} {h : AH} : jmp G J (afw L_X4_isSpelled [20] 18) 18 S lv st h = G L_X4_isSpelled_18 S lv st h := nr rfl
theorem j_X4_isSpelled_49 {G : List Item → SpS → List Value → List Value → AH → Prop} {J : Nat → SpS → List Value → List Value → AH → Prop} {S : SpS} {lv st : List Value} {h : AH} : jmp G J (afw L_X4_isSpelled [20] 49) 49 S lv st h = G L_X4_isSpelled_49 S lv st h := nr rfl
theorem j_X4_isSpelled_55 {G : List Item → SpS → List Value → List Value → AH → Prop} {J : Nat → SpS → List Value → List Value → AH → Prop} {S : SpS} {lv st : List Value} {h : AH} : jmp G J (afw L_X4_isSpelled [20] 55) 55 S lv st h = G L_X4_isSpelled_55 S lv st h := nr rfl
theorem j_X4_isSpelled_20 {G : List Item → SpS → List Value → List Value → AH → Prop} {J : Nat → SpS → List Value → List Value → AH → Prop} {S : SpS} {lv st : List Value} {h : AH} : jmp G J (afw L_X4_isSpelled [20] 20) 20 S lv st h = J 20 S lv st h := nr rfl
theorem e_X4_isSpelled {c : Addr} {r : Addr} {h : AH} {K2 : Option Value → SpS → AH → Prop} : S_X4_isSpelled (SHn nn) [.ref c, .ref r] h K2 = (fun (K : Option Value → AH → Prop) => c = 40 ∧ ∃ i s e : Nat, i < 7 ∧ r = 100000 + i ∧ s ≤ e ∧ e ≤ 250 ∧ gI h 40 2 = nI s ∧ gI h 40 3 = nI e ∧ (spB (gI h 41) s e i = true → K (some (.int 1)) h) ∧ (¬ spB (gI h 41) s e i = true → K (some (.int 0)) h)) (fun v h' => K2 v (SHn nn) h') := (lift_e P_X4_isSpelled [.ref c, .ref r] h K2).trans (nr rfl)
set_option maxRecDepth 100000 in
set_option maxHeartbeats 4000000 in
theorem c_X4_isSpelled (l : Launch) : Ct l yX4_isSpelled cX4_isSpelled 3 (some .boolean) 6 0 0 S_X4_isSpelled := by
  refine Ct0_mk L_X4_isSpelled [20] (by decide +kernel) (by decide) ok_X4_isSpelled (lk_X4_isSpelled l) ?_
  intro nn as h K hP
  match as, hP with
  | [.ref c, .ref r], ⟨hc, i, s, e, hi, hr, hse, he, g2, g3_, hK1, hK2⟩ =>
  refine ⟨by simp [slotsN, Value.category], fun J hJ => ?_⟩
  subst hc hr
  rw [spB_y] at hK1 hK2
  obtain ⟨hl6, -⟩ := ch_ok i hi
  generalize hL : lenJ.getD i 0 = n at *
  refine hJ 0 _ _ _ _ ?_
  simp only [z_X4_isSpelled_0, u_X4_isSpelled_0, u_X4_isSpelled_18, u_X4_isSpelled_20, u_X4_isSpelled_49, u_X4_isSpelled_55, j_X4_isSpelled_18, j_X4_isSpelled_20, j_X4_isSpelled_49, j_X4_isSpelled_55, ev_aload_n1, ev_callJ0, ev_aload_n0, ev_getfI, ev_isub, ev_ic_eq, ev_iconst, ev_iret, ro_i, ro_z, ev_istore_n2, ev_nop, ev_iload_n2, ev_ic_ge, ev_getfR, ev_iadd, ev_iaload, ev_callJ1, ev_iinc2, ev_goto, ↓e_J0_charAt_5068e, ↓e_J0_length_8abf5, capO_z, kb_6, kb_11, kb_13, kb_15, kb_17, kb_18, kb_19, kb_23, kb_24, kb_25, kb_26, kb_29, kb_31, kb_35, kb_37, kb_41, kb_43, kb_44, kb_61, kb_75, kb_104, kb_7, kb_8, kb_9, kb_10, kb_12, kb_16, kb_20, kb_21, kb_30, kb_32, kb_40, kb_48, kb_50, kb_57, kb_59, kb_60, kb_63, kb_70, kb_78, kb_81, kb_82, kb_84, kb_97, kb_99, kb_100, kb_101, kb_119, kb_120, kb_122, ki_m1, ki_0, ki_1, ki_2, ki_3, ki_4, ki_5, ki_6, ki_7, ki_8, ki_9, ki_10, ki_11, ki_12, ki_13, ki_14, ki_15, ki_16, ki_17, ki_18, ki_19, ki_20, ki_21, ki_22, ki_23, ki_24, ki_25, ki_26, ki_27, ki_28, ki_29, ki_30, ki_31, ki_32, ki_33, ki_34, ki_35, ki_36, ki_37, ki_38, ki_39, ki_40, ki_41, ki_42, ki_43, ki_44, ki_45, ki_46, ki_47, ki_48, ki_49, ki_50, ki_51, ki_52, ki_53, ki_54, ki_55, ki_56, ki_57, ki_58, ki_59, ki_60, ki_61, ki_62, ki_63, ks_m2000, ks_m1006, ks_m1005, ks_m1004, ks_m1003, ks_m1002, ks_m1000, ks_200, ks_201, ks_300, ks_720, ks_9000, ks_10000, ks_250, ks_255, ks_256, ks_320, ks_660, ks_999, ks_1000, ks_9999, ks_12345, ne_2, ne_10, t_0, t_40, t_41, t_42, t_43, t_44, t_45, t_46, t_47, r_0_0, r_0_1, r_0_2, r_0_4, r_0_5, r_0_6, r_0_7, r_40_0, r_40_5, r_44_0, r_44_1, t_1, t_14, t_27, t_2, t_15, t_28, t_64, Nat.reduceEqDiff, ne_eq, not_false_eq_true, false_implies, true_implies, implies_true, Nat.reduceAdd, Nat.reduceLeDiff, Nat.reduceLT, Nat.reduceMul, or_true, true_or, if_true, if_false, not_true_eq_false, and_self, bF, Nat.reduceBEq, Bool.false_and, Bool.and_false, Bool.or_self, Bool.or_false, Bool.false_or, Bool.false_eq_true, Int.reduceAdd, Bool.and_self, Bool.true_and, Bool.and_true, beq_self_eq_true, not_not_, i10_, i01_, List.length_nil, List.length_cons, true_and, and_true, false_and, and_false, kl_i, kl_a, kl_n, kl_l, tl_s, tl_n, rv_S, pd_0, pd_e, pd_r, pd_i, pd_l, g2, g3_, nI_sub hse (show e < 2147483648 by omega), str7 hi, zero_z]
  refine ⟨i, hi, rfl, ?_⟩
  rw [hL, nI_inj (show n < 2147483648 by omega) (show e - s < 2147483648 by omega)]
  refine ⟨fun q => ?_, fun q => hK2 (fun z => q z.1)⟩
  refine dn (P := fun a => (∀ k, k < a → gI h 41 (s + k) = chJ i k) → J 20 (SHn nn) [.ref 40, .ref (100000 + i), .int (nI a)] [] h) n ?_ (fun a ha ih hy => ?_) (fun k hk => absurd hk (Nat.not_lt_zero k))
  · intro hy
    refine hJ 20 _ _ _ _ ?_
    simp only [z_X4_isSpelled_20, u_X4_isSpelled_0, u_X4_isSpelled_18, u_X4_isSpelled_20, u_X4_isSpelled_49, u_X4_isSpelled_55, j_X4_isSpelled_18, j_X4_isSpelled_20, j_X4_isSpelled_49, j_X4_isSpelled_55, ev_aload_n1, ev_callJ0, ev_aload_n0, ev_getfI, ev_isub, ev_ic_eq, ev_iconst, ev_iret, ro_i, ro_z, ev_istore_n2, ev_nop, ev_iload_n2, ev_ic_ge, ev_getfR, ev_iadd, ev_iaload, ev_callJ1, ev_iinc2, ev_goto, ↓e_J0_charAt_5068e, ↓e_J0_length_8abf5, capO_z, kb_6, kb_11, kb_13, kb_15, kb_17, kb_18, kb_19, kb_23, kb_24, kb_25, kb_26, kb_29, kb_31, kb_35, kb_37, kb_41, kb_43, kb_44, kb_61, kb_75, kb_104, kb_7, kb_8, kb_9, kb_10, kb_12, kb_16, kb_20, kb_21, kb_30, kb_32, kb_40, kb_48, kb_50, kb_57, kb_59, kb_60, kb_63, kb_70, kb_78, kb_81, kb_82, kb_84, kb_97, kb_99, kb_100, kb_101, kb_119, kb_120, kb_122, ki_m1, ki_0, ki_1, ki_2, ki_3, ki_4, ki_5, ki_6, ki_7, ki_8, ki_9, ki_10, ki_11, ki_12, ki_13, ki_14, ki_15, ki_16, ki_17, ki_18, ki_19, ki_20, ki_21, ki_22, ki_23, ki_24, ki_25, ki_26, ki_27, ki_28, ki_29, ki_30, ki_31, ki_32, ki_33, ki_34, ki_35, ki_36, ki_37, ki_38, ki_39, ki_40, ki_41, ki_42, ki_43, ki_44, ki_45, ki_46, ki_47, ki_48, ki_49, ki_50, ki_51, ki_52, ki_53, ki_54, ki_55, ki_56, ki_57, ki_58, ki_59, ki_60, ki_61, ki_62, ki_63, ks_m2000, ks_m1006, ks_m1005, ks_m1004, ks_m1003, ks_m1002, ks_m1000, ks_200, ks_201, ks_300, ks_720, ks_9000, ks_10000, ks_250, ks_255, ks_256, ks_320, ks_660, ks_999, ks_1000, ks_9999, ks_12345, ne_2, ne_10, t_0, t_40, t_41, t_42, t_43, t_44, t_45, t_46, t_47, r_0_0, r_0_1, r_0_2, r_0_4, r_0_5, r_0_6, r_0_7, r_40_0, r_40_5, r_44_0, r_44_1, t_1, t_14, t_27, t_2, t_15, t_28, t_64, Nat.reduceEqDiff, ne_eq, not_false_eq_true, false_implies, true_implies, implies_true, Nat.reduceAdd, Nat.reduceLeDiff, Nat.reduceLT, Nat.reduceMul, or_true, true_or, if_true, if_false, not_true_eq_false, and_self, bF, Nat.reduceBEq, Bool.false_and, Bool.and_false, Bool.or_self, Bool.or_false, Bool.false_or, Bool.false_eq_true, Int.reduceAdd, Bool.and_self, Bool.true_and, Bool.and_true, beq_self_eq_true, not_not_, i10_, i01_, List.length_nil, List.length_cons, true_and, and_true, false_and, and_false, kl_i, kl_a, kl_n, kl_l, tl_s, tl_n, rv_S, pd_0, pd_e, pd_r, pd_i, pd_l, str7 hi, one_z]
    refine ⟨i, hi, rfl, ?_⟩
    rw [hL]
    refine ⟨fun _ => hK1 ⟨q, hy⟩, fun z => absurd (Int32.le_refl _) z⟩
  · refine hJ 20 _ _ _ _ ?_
    simp only [z_X4_isSpelled_20, u_X4_isSpelled_0, u_X4_isSpelled_18, u_X4_isSpelled_20, u_X4_isSpelled_49, u_X4_isSpelled_55, j_X4_isSpelled_18, j_X4_isSpelled_20, j_X4_isSpelled_49, j_X4_isSpelled_55, ev_aload_n1, ev_callJ0, ev_aload_n0, ev_getfI, ev_isub, ev_ic_eq, ev_iconst, ev_iret, ro_i, ro_z, ev_istore_n2, ev_nop, ev_iload_n2, ev_ic_ge, ev_getfR, ev_iadd, ev_iaload, ev_callJ1, ev_iinc2, ev_goto, ↓e_J0_charAt_5068e, ↓e_J0_length_8abf5, capO_z, kb_6, kb_11, kb_13, kb_15, kb_17, kb_18, kb_19, kb_23, kb_24, kb_25, kb_26, kb_29, kb_31, kb_35, kb_37, kb_41, kb_43, kb_44, kb_61, kb_75, kb_104, kb_7, kb_8, kb_9, kb_10, kb_12, kb_16, kb_20, kb_21, kb_30, kb_32, kb_40, kb_48, kb_50, kb_57, kb_59, kb_60, kb_63, kb_70, kb_78, kb_81, kb_82, kb_84, kb_97, kb_99, kb_100, kb_101, kb_119, kb_120, kb_122, ki_m1, ki_0, ki_1, ki_2, ki_3, ki_4, ki_5, ki_6, ki_7, ki_8, ki_9, ki_10, ki_11, ki_12, ki_13, ki_14, ki_15, ki_16, ki_17, ki_18, ki_19, ki_20, ki_21, ki_22, ki_23, ki_24, ki_25, ki_26, ki_27, ki_28, ki_29, ki_30, ki_31, ki_32, ki_33, ki_34, ki_35, ki_36, ki_37, ki_38, ki_39, ki_40, ki_41, ki_42, ki_43, ki_44, ki_45, ki_46, ki_47, ki_48, ki_49, ki_50, ki_51, ki_52, ki_53, ki_54, ki_55, ki_56, ki_57, ki_58, ki_59, ki_60, ki_61, ki_62, ki_63, ks_m2000, ks_m1006, ks_m1005, ks_m1004, ks_m1003, ks_m1002, ks_m1000, ks_200, ks_201, ks_300, ks_720, ks_9000, ks_10000, ks_250, ks_255, ks_256, ks_320, ks_660, ks_999, ks_1000, ks_9999, ks_12345, ne_2, ne_10, t_0, t_40, t_41, t_42, t_43, t_44, t_45, t_46, t_47, r_0_0, r_0_1, r_0_2, r_0_4, r_0_5, r_0_6, r_0_7, r_40_0, r_40_5, r_44_0, r_44_1, t_1, t_14, t_27, t_2, t_15, t_28, t_64, Nat.reduceEqDiff, ne_eq, not_false_eq_true, false_implies, true_implies, implies_true, Nat.reduceAdd, Nat.reduceLeDiff, Nat.reduceLT, Nat.reduceMul, or_true, true_or, if_true, if_false, not_true_eq_false, and_self, bF, Nat.reduceBEq, Bool.false_and, Bool.and_false, Bool.or_self, Bool.or_false, Bool.false_or, Bool.false_eq_true, Int.reduceAdd, Bool.and_self, Bool.true_and, Bool.and_true, beq_self_eq_true, not_not_, i10_, i01_, List.length_nil, List.length_cons, true_and, and_true, false_and, and_false, kl_i, kl_a, kl_n, kl_l, tl_s, tl_n, rv_S, pd_0, pd_e, pd_r, pd_i, pd_l, str7 hi, g2, zero_z, nI_ad, vp250 (show s + a < 250 by omega), nI_clamp (show s + a < 2 ^ 31 by omega), nI_1]
    refine ⟨i, hi, rfl, ?_⟩
    rw [hL]
    refine ⟨fun z => absurd z (nI_ge ha (by omega)), fun _ => ⟨i, a, hi, rfl, by rw [hL]; exact ha, rfl, fun q2 => ?_, fun q2 => ?_⟩⟩
    · exact ih (fun k hk => by
        by_cases z : k < a
        · exact hy k z
        · rw [show k = a by omega]; exact q2)
    · exact hK2 (fun z => q2 (z.2 a ha))
def wordF (B : Nat → Int32) (s e r i : Nat) : Int32 := match r with
  | 0 => -1
  | r + 1 => if spB B s e i = true then nI i else wordF B s e r (i + 1)
theorem wordF_s (B : Nat → Int32) (s e r i : Nat) : wordF B s e (r + 1) i = if spB B s e i = true then nI i else wordF B s e r (i + 1) := rfl
def wordB (B : Nat → Int32) (T : Nat × Nat × Int32) : Int32 := if T.2.2 = 0 then wordF B T.1 T.2.1 7 0 else -1
def P_X4_knownWord : Sp0T := fun as h K => match as with
  | [.ref c] => c = 40 ∧ ∃ T : Nat × Nat × Int32, T.1 ≤ T.2.1 ∧ T.2.1 ≤ 250 ∧ tokAt h T ∧ K (some (.int (wordB (gI h 41) T))) h
  | _ => False
def S_X4_knownWord : SpT := lift P_X4_knownWord
def L_X4_knownWord_36 : List Item := (36, .iconst (-1), [], nS) :: (37, .ireturn, [], nS) :: []
def L_X4_knownWord_30 : List Item := (30, .iinc 1 1, [], nS) :: (33, .goto (-22), [11], nS) :: L_X4_knownWord_36
def L_X4_knownWord_11 : List Item := (11, .iload_n 1, [], nS) :: (12, .bipush 7, [], nS) :: (14, .if_icmp .ge 22, [36], nS) :: (17, .aload_n 0, [], nS) :: (18, .iload_n 1, [], nS) :: (19, .invokestatic 109, [0, 1, 0, 0], S_X4_spelling) :: (22, .invokevirtual 113, [1, 4, 0, 0], S_X4_isSpelled) :: (25, .ifCond .eq 5, [30], nS) :: (28, .iload_n 1, [], nS) :: (29, .ireturn, [], nS) :: L_X4_knownWord_30
def L_X4_knownWord_9 : List Item := (9, .iconst 0, [], nS) :: (10, .istore_n 1, [], nS) :: (11, .nop, [], nS) :: L_X4_knownWord_11
def L_X4_knownWord_0 : List Item := (0, .aload_n 0, [], nS) :: (1, .getfield 32, [4, 4, 0], nS) :: (4, .ifCond .eq 5, [9], nS) :: (7, .iconst (-1), [], nS) :: (8, .ireturn, [], nS) :: L_X4_knownWord_9
def L_X4_knownWord : List Item := L_X4_knownWord_0
theorem ok_X4_knownWord : okB cX4_knownWord L_X4_knownWord = true := by decide +kernel
theorem lk_X4_knownWord (l : Launch) : LKs l RX4 7 false L_X4_knownWord := ⟨trivial, ⟨_, _, _, rfl, ⟨(RX4, TX4, 6), rfl, by decide, gT_of (List.mem_of_getElem? (i := 142) (by decide +kernel)) rfl⟩, rfl⟩, trivial, trivial, trivial, trivial, trivial, trivial, trivial, trivial, trivial, trivial, trivial, Or.inl ⟨_, _, _, _, _, _, _, _, rfl, c_X4_spelling l, yv_X4_spelling, by decide, gT_of (List.mem_of_getElem? (i := 335) (by decide +kernel)) rfl⟩, ⟨_, _, _, _, _, _, _, _, _, rfl, c_X4_isSpelled l, Or.inl ⟨by decide, yv_X4_isSpelled⟩, by decide, gT_of (List.mem_of_getElem? (i := 345) (by decide +kernel)) rfl⟩, trivial, trivial, trivial, trivial, trivial, trivial, trivial, trivial⟩
theorem b_X4_knownWord_0 : atL L_X4_knownWord 0 = L_X4_knownWord_0 := rfl
theorem b_X4_knownWord_9 : atL L_X4_knownWord 9 = L_X4_knownWord_9 := rfl
theorem b_X4_knownWord_11 : atL L_X4_knownWord 11 = L_X4_knownWord_11 := rfl
theorem b_X4_knownWord_30 : atL L_X4_knownWord 30 = L_X4_knownWord_30 := rfl
theorem b_X4_knownWord_36 : atL L_X4_knownWord 36 = L_X4_knownWord_36 := rfl
theorem a_X4_knownWord_9 : afw L_X4_knownWord [11] 9 = L_X4_knownWord_9 := rfl
theorem a_X4_knownWord_30 : afw L_X4_knownWord [11] 30 = L_X4_knownWord_30 := rfl
theorem a_X4_knownWord_36 : afw L_X4_knownWord [11] 36 = L_X4_knownWord_36 := rfl
theorem a_X4_knownWord_11 : afw L_X4_knownWord [11] 11 = [] := rfl
theorem yv_X4_knownWord : YV yX4_knownWord cX4_knownWord 2 (some .int) 0 4 := ⟨⟨gT_of (List.mem_of_getElem? (i := 334) (by decide +kernel)) rfl, gT_of (List.mem_of_getElem? (i := 29) (by decide +kernel)) rfl, ⟨by decide, by decide⟩, by decide +kernel, by decide⟩, gT_of (List.mem_of_getElem? (i := 333) (by decide +kernel)) rfl, gT_of (List.mem_of_getElem? (i := 6) (by decide +kernel)) rfl, rfl⟩
theorem u_X4_knownWord_0 : L_X4_knownWord_0 = (0, .aload_n 0, [], nS) :: (1, .getfield 32, [4, 4, 0], nS) :: (4, .ifCond .eq 5, [9], nS) :: (7, .iconst (-1), [], nS) :: (8, .ireturn, [], nS) :: L_X4_knownWord_9 := nr rfl
theorem u_X4_knownWord_9 : L_X4_knownWord_9 = (9, .iconst 0, [], nS) :: (10, .istore_n 1, [], nS) :: (11, .nop, [], nS) :: L_X4_knownWord_11 := nr rfl
theorem u_X4_knownWord_11 : L_X4_knownWord_11 = (11, .iload_n 1, [], nS) :: (12, .bipush 7, [], nS) :: (14, .if_icmp .ge 22, [36], nS) :: (17, .aload_n 0, [], nS) :: (18, .iload_n 1, [], nS) :: (19, .invokestatic 109, [0, 1, 0, 0], S_X4_spelling) :: (22, .invokevirtual 113, [1, 4, 0, 0], S_X4_isSpelled) :: (25, .ifCond .eq 5, [30], nS) :: (28, .iload_n 1, [], nS) :: (29, .ireturn, [], nS) :: L_X4_knownWord_30 := nr rfl
theorem u_X4_knownWord_30 : L_X4_knownWord_30 = (30, .iinc 1 1, [], nS) :: (33, .goto (-22), [11], nS) :: L_X4_knownWord_36 := nr rfl
theorem u_X4_knownWord_36 : L_X4_knownWord_36 = (36, .iconst (-1), [], nS) :: (37, .ireturn, [], nS) :: [] := nr rfl
theorem z_X4_knownWord_0 : atL L_X4_knownWord 0 = L_X4_knownWord_0 := nr rfl
theorem z_X4_knownWord_9 : atL L_X4_knownWord 9 = L_X4_knownWord_9 := nr rfl
theorem z_X4_knownWord_11 : atL L_X4_knownWord 11 = L_X4_knownWord_11 := nr rfl
theorem z_X4_knownWord_30 : atL L_X4_knownWord 30 = L_X4_knownWord_30 := nr rfl
theorem z_X4_knownWord_36 : atL L_X4_knownWord 36 = L_X4_knownWord_36 := nr rfl
theorem j_X4_knownWord_9 {G : List Item → SpS → List Value → List Value → AH → Prop} {J : Nat → SpS → List Value → List Value → AH → Prop} {S : SpS} {lv st : List Value} {h : AH} : jmp G J (afw L_X4_knownWord [11] 9) 9 S lv st h = G L_X4_knownWord_9 S lv st h := nr rfl
theorem j_X4_knownWord_30 {G : List Item → SpS → List Value → List Value → AH → Prop} {J : Nat → SpS → List Value → List Value → AH → Prop} {S : SpS} {lv st : List Value} {h : AH} : jmp G J (afw L_X4_knownWord [11] 30) 30 S lv st h = G L_X4_knownWord_30 S lv st h := nr rfl
theorem j_X4_knownWord_36 {G : List Item → SpS → List Value → List Value → AH → Prop} {J : Nat → SpS → List Value → List Value → AH → Prop} {S : SpS} {lv st : List Value} {h : AH} : jmp G J (afw L_X4_knownWord [11] 36) 36 S lv st h = G L_X4_knownWord_36 S lv st h := nr rfl
theorem j_X4_knownWord_11 {G : List Item → SpS → List Value → List Value → AH → Prop} {J : Nat → SpS → List Value → List Value → AH → Prop} {S : SpS} {lv st : List Value} {h : AH} : jmp G J (afw L_X4_knownWord [11] 11) 11 S lv st h = J 11 S lv st h := nr rfl
theorem e_X4_knownWord {c : Addr} {h : AH} {K2 : Option Value → SpS → AH → Prop} : S_X4_knownWord (SHn nn) [.ref c] h K2 = (fun (K : Option Value → AH → Prop) => c = 40 ∧ ∃ T : Nat × Nat × Int32, T.1 ≤ T.2.1 ∧ T.2.1 ≤ 250 ∧ tokAt h T ∧ K (some (.int (wordB (gI h 41) T))) h) (fun v h' => K2 v (SHn nn) h') := (lift_e P_X4_knownWord [.ref c] h K2).trans (nr rfl)
set_option maxRecDepth 100000 in
set_option maxHeartbeats 4000000 in
theorem c_X4_knownWord (l : Launch) : Ct l yX4_knownWord cX4_knownWord 2 (some .int) 7 0 0 S_X4_knownWord := by
  refine Ct0_mk L_X4_knownWord [11] (by decide +kernel) (by decide) ok_X4_knownWord (lk_X4_knownWord l) ?_
  intro nn as h K hP
  match as, hP with
  | [.ref c], ⟨hc, T, hse, he, ⟨g2, g3_, g4⟩, hK⟩ =>
  refine ⟨by simp [slotsN, Value.category], fun J hJ => ?_⟩
  subst hc
  obtain ⟨s, e, t⟩ := T
  dsimp only at hse he g2 g3_ g4
  unfold wordB at hK
  dsimp only at hK
  refine hJ 0 _ _ _ _ ?_
  simp only [z_X4_knownWord_0, u_X4_knownWord_0, u_X4_knownWord_9, u_X4_knownWord_11, u_X4_knownWord_30, u_X4_knownWord_36, j_X4_knownWord_9, j_X4_knownWord_11, j_X4_knownWord_30, j_X4_knownWord_36, ev_aload_n0, ev_getfI, ev_if_eq, ev_iconst, ev_iret, ro_i, ro_z, ev_istore_n1, ev_nop, ev_iload_n1, ev_bipush, ev_ic_ge, ev_callS1, ev_callV1, ev_iinc1, ev_goto, ↓e_X4_isSpelled, ↓e_X4_spelling, capO_z, kb_6, kb_11, kb_13, kb_15, kb_17, kb_18, kb_19, kb_23, kb_24, kb_25, kb_26, kb_29, kb_31, kb_35, kb_37, kb_41, kb_43, kb_44, kb_61, kb_75, kb_104, kb_7, kb_8, kb_9, kb_10, kb_12, kb_16, kb_20, kb_21, kb_30, kb_32, kb_40, kb_48, kb_50, kb_57, kb_59, kb_60, kb_63, kb_70, kb_78, kb_81, kb_82, kb_84, kb_97, kb_99, kb_100, kb_101, kb_119, kb_120, kb_122, ki_m1, ki_0, ki_1, ki_2, ki_3, ki_4, ki_5, ki_6, ki_7, ki_8, ki_9, ki_10, ki_11, ki_12, ki_13, ki_14, ki_15, ki_16, ki_17, ki_18, ki_19, ki_20, ki_21, ki_22, ki_23, ki_24, ki_25, ki_26, ki_27, ki_28, ki_29, ki_30, ki_31, ki_32, ki_33, ki_34, ki_35, ki_36, ki_37, ki_38, ki_39, ki_40, ki_41, ki_42, ki_43, ki_44, ki_45, ki_46, ki_47, ki_48, ki_49, ki_50, ki_51, ki_52, ki_53, ki_54, ki_55, ki_56, ki_57, ki_58, ki_59, ki_60, ki_61, ki_62, ki_63, ks_m2000, ks_m1006, ks_m1005, ks_m1004, ks_m1003, ks_m1002, ks_m1000, ks_200, ks_201, ks_300, ks_720, ks_9000, ks_10000, ks_250, ks_255, ks_256, ks_320, ks_660, ks_999, ks_1000, ks_9999, ks_12345, ne_2, ne_10, t_0, t_40, t_41, t_42, t_43, t_44, t_45, t_46, t_47, r_0_0, r_0_1, r_0_2, r_0_4, r_0_5, r_0_6, r_0_7, r_40_0, r_40_5, r_44_0, r_44_1, t_1, t_14, t_27, t_2, t_15, t_28, t_64, Nat.reduceEqDiff, ne_eq, not_false_eq_true, false_implies, true_implies, implies_true, Nat.reduceAdd, Nat.reduceLeDiff, Nat.reduceLT, Nat.reduceMul, or_true, true_or, if_true, if_false, not_true_eq_false, and_self, bF, Nat.reduceBEq, Bool.false_and, Bool.and_false, Bool.or_self, Bool.or_false, Bool.false_or, Bool.false_eq_true, Int.reduceAdd, Bool.and_self, Bool.true_and, Bool.and_true, beq_self_eq_true, not_not_, i10_, i01_, List.length_nil, List.length_cons, true_and, and_true, false_and, and_false, kl_i, kl_a, kl_n, kl_l, tl_s, tl_n, rv_S, pd_0, pd_e, pd_r, pd_i, pd_l, g4]
  refine ⟨fun q => ?_, fun q => by rw [if_neg q] at hK; exact hK⟩
  rw [if_pos q] at hK
  refine dn (P := fun a => wordF (gI h 41) s e (7 - a) a = wordF (gI h 41) s e 7 0 → J 11 (SHn nn) [.ref 40, .int (nI a)] [] h) 7 ?_ (fun a ha ih hu => ?_) rfl
  · intro hu
    rw [← hu] at hK
    refine hJ 11 _ _ _ _ ?_
    simp only [z_X4_knownWord_11, u_X4_knownWord_0, u_X4_knownWord_9, u_X4_knownWord_11, u_X4_knownWord_30, u_X4_knownWord_36, j_X4_knownWord_9, j_X4_knownWord_11, j_X4_knownWord_30, j_X4_knownWord_36, ev_aload_n0, ev_getfI, ev_if_eq, ev_iconst, ev_iret, ro_i, ro_z, ev_istore_n1, ev_nop, ev_iload_n1, ev_bipush, ev_ic_ge, ev_callS1, ev_callV1, ev_iinc1, ev_goto, ↓e_X4_isSpelled, ↓e_X4_spelling, capO_z, kb_6, kb_11, kb_13, kb_15, kb_17, kb_18, kb_19, kb_23, kb_24, kb_25, kb_26, kb_29, kb_31, kb_35, kb_37, kb_41, kb_43, kb_44, kb_61, kb_75, kb_104, kb_7, kb_8, kb_9, kb_10, kb_12, kb_16, kb_20, kb_21, kb_30, kb_32, kb_40, kb_48, kb_50, kb_57, kb_59, kb_60, kb_63, kb_70, kb_78, kb_81, kb_82, kb_84, kb_97, kb_99, kb_100, kb_101, kb_119, kb_120, kb_122, ki_m1, ki_0, ki_1, ki_2, ki_3, ki_4, ki_5, ki_6, ki_7, ki_8, ki_9, ki_10, ki_11, ki_12, ki_13, ki_14, ki_15, ki_16, ki_17, ki_18, ki_19, ki_20, ki_21, ki_22, ki_23, ki_24, ki_25, ki_26, ki_27, ki_28, ki_29, ki_30, ki_31, ki_32, ki_33, ki_34, ki_35, ki_36, ki_37, ki_38, ki_39, ki_40, ki_41, ki_42, ki_43, ki_44, ki_45, ki_46, ki_47, ki_48, ki_49, ki_50, ki_51, ki_52, ki_53, ki_54, ki_55, ki_56, ki_57, ki_58, ki_59, ki_60, ki_61, ki_62, ki_63, ks_m2000, ks_m1006, ks_m1005, ks_m1004, ks_m1003, ks_m1002, ks_m1000, ks_200, ks_201, ks_300, ks_720, ks_9000, ks_10000, ks_250, ks_255, ks_256, ks_320, ks_660, ks_999, ks_1000, ks_9999, ks_12345, ne_2, ne_10, t_0, t_40, t_41, t_42, t_43, t_44, t_45, t_46, t_47, r_0_0, r_0_1, r_0_2, r_0_4, r_0_5, r_0_6, r_0_7, r_40_0, r_40_5, r_44_0, r_44_1, t_1, t_14, t_27, t_2, t_15, t_28, t_64, Nat.reduceEqDiff, ne_eq, not_false_eq_true, false_implies, true_implies, implies_true, Nat.reduceAdd, Nat.reduceLeDiff, Nat.reduceLT, Nat.reduceMul, or_true, true_or, if_true, if_false, not_true_eq_false, and_self, bF, Nat.reduceBEq, Bool.false_and, Bool.and_false, Bool.or_self, Bool.or_false, Bool.false_or, Bool.false_eq_true, Int.reduceAdd, Bool.and_self, Bool.true_and, Bool.and_true, beq_self_eq_true, not_not_, i10_, i01_, List.length_nil, List.length_cons, true_and, and_true, false_and, and_false, kl_i, kl_a, kl_n, kl_l, tl_s, tl_n, rv_S, pd_0, pd_e, pd_r, pd_i, pd_l, show ((7 : Int32) ≤ nI 7) = True by decide]
    exact hK
  · rw [show 7 - a = (7 - (a + 1)) + 1 by omega, wordF_s] at hu
    refine hJ 11 _ _ _ _ ?_
    simp only [z_X4_knownWord_11, u_X4_knownWord_0, u_X4_knownWord_9, u_X4_knownWord_11, u_X4_knownWord_30, u_X4_knownWord_36, j_X4_knownWord_9, j_X4_knownWord_11, j_X4_knownWord_30, j_X4_knownWord_36, ev_aload_n0, ev_getfI, ev_if_eq, ev_iconst, ev_iret, ro_i, ro_z, ev_istore_n1, ev_nop, ev_iload_n1, ev_bipush, ev_ic_ge, ev_callS1, ev_callV1, ev_iinc1, ev_goto, ↓e_X4_isSpelled, ↓e_X4_spelling, capO_z, kb_6, kb_11, kb_13, kb_15, kb_17, kb_18, kb_19, kb_23, kb_24, kb_25, kb_26, kb_29, kb_31, kb_35, kb_37, kb_41, kb_43, kb_44, kb_61, kb_75, kb_104, kb_7, kb_8, kb_9, kb_10, kb_12, kb_16, kb_20, kb_21, kb_30, kb_32, kb_40, kb_48, kb_50, kb_57, kb_59, kb_60, kb_63, kb_70, kb_78, kb_81, kb_82, kb_84, kb_97, kb_99, kb_100, kb_101, kb_119, kb_120, kb_122, ki_m1, ki_0, ki_1, ki_2, ki_3, ki_4, ki_5, ki_6, ki_7, ki_8, ki_9, ki_10, ki_11, ki_12, ki_13, ki_14, ki_15, ki_16, ki_17, ki_18, ki_19, ki_20, ki_21, ki_22, ki_23, ki_24, ki_25, ki_26, ki_27, ki_28, ki_29, ki_30, ki_31, ki_32, ki_33, ki_34, ki_35, ki_36, ki_37, ki_38, ki_39, ki_40, ki_41, ki_42, ki_43, ki_44, ki_45, ki_46, ki_47, ki_48, ki_49, ki_50, ki_51, ki_52, ki_53, ki_54, ki_55, ki_56, ki_57, ki_58, ki_59, ki_60, ki_61, ki_62, ki_63, ks_m2000, ks_m1006, ks_m1005, ks_m1004, ks_m1003, ks_m1002, ks_m1000, ks_200, ks_201, ks_300, ks_720, ks_9000, ks_10000, ks_250, ks_255, ks_256, ks_320, ks_660, ks_999, ks_1000, ks_9999, ks_12345, ne_2, ne_10, t_0, t_40, t_41, t_42, t_43, t_44, t_45, t_46, t_47, r_0_0, r_0_1, r_0_2, r_0_4, r_0_5, r_0_6, r_0_7, r_40_0, r_40_5, r_44_0, r_44_1, t_1, t_14, t_27, t_2, t_15, t_28, t_64, Nat.reduceEqDiff, ne_eq, not_false_eq_true, false_implies, true_implies, implies_true, Nat.reduceAdd, Nat.reduceLeDiff, Nat.reduceLT, Nat.reduceMul, or_true, true_or, if_true, if_false, not_true_eq_false, and_self, bF, Nat.reduceBEq, Bool.false_and, Bool.and_false, Bool.or_self, Bool.or_false, Bool.false_or, Bool.false_eq_true, Int.reduceAdd, Bool.and_self, Bool.true_and, Bool.and_true, beq_self_eq_true, not_not_, i10_, i01_, List.length_nil, List.length_cons, true_and, and_true, false_and, and_false, kl_i, kl_a, kl_n, kl_l, tl_s, tl_n, rv_S, pd_0, pd_e, pd_r, pd_i, pd_l, show ((7 : Int32) ≤ nI a) = False from lpF (n := 7) ha (by omega), nI_1]
    refine ⟨a, ha, rfl, a, s, e, ha, rfl, hse, he, g2, g3_, fun q2 => ?_, fun q2 => ?_⟩
    · rw [if_pos q2] at hu
      rw [← hu] at hK
      exact hK
    · rw [if_neg q2] at hu
      exact ih hu
/-- the tape's reader has gone on: nothing else -/
def frT (h h' : AH) : Prop := (∀ c k, ¬ (c = 40 ∧ 2 ≤ k) → gI h' c k = gI h c k) ∧ ∀ c k, gJ h' c k = gJ h c k
theorem frT_rf (h : AH) : frT h h := ⟨fun _ _ _ => rfl, fun _ _ => rfl⟩
theorem frT_t {h h' : AH} {k : Nat} {v : Int32} (hf : frT h h') (hk : 2 ≤ k) : frT h (pI h' 40 k v) := ⟨fun c k' hc => by rw [gI_pI, if_neg (by omega)]; exact hf.1 c k' hc, hf.2⟩
theorem frT_B {h h' : AH} (hf : frT h h') : gI h' 41 = gI h 41 := funext fun k => hf.1 41 k (by omega)
theorem frT_S {h h' : AH} (hf : frT h h') : gI h' 40 1 = gI h 40 1 := hf.1 40 1 (by omega)
theorem frT_M {h h' : AH} (hf : frT h h') : gI h' 42 = gI h 42 := funext fun k => hf.1 42 k (by omega)
theorem frT_N {h h' : AH} (hf : frT h h') : frN h h' := ⟨fun c k hc => hf.1 c k (by omega), hf.2⟩
theorem lt_ir (n : Nat) : (nI n < nI n) = False := eq_false (fun z => absurd (Int32.le_refl (nI n)) (Int32.not_le.mpr z))
def P_X4_nextToken : Sp0T := fun as h K => match as with
  | [.ref c] => c = 40 ∧ ∃ n e : Nat, n ≤ 250 ∧ e ≤ n ∧ gI h 40 1 = nI n ∧ gI h 40 3 = nI e ∧ ∀ h', tokAt h' (nextB (gI h 41) n e) → frT h h' → K none h'
  | _ => False
def S_X4_nextToken : SpT := lift P_X4_nextToken
def L_X4_nextToken_165 : List Item := (165, .return_, [], nS) :: []
def L_X4_nextToken_118 : List Item := (118, .iload_n 1, [], nS) :: (119, .ifCond .eq 46, [165], nS) :: (122, .aload_n 0, [], nS) :: (123, .getfield 22, [4, 3, 0], nS) :: (126, .aload_n 0, [], nS) :: (127, .getfield 18, [4, 1, 0], nS) :: (130, .if_icmp .ge 35, [165], nS) :: (133, .aload_n 0, [], nS) :: (134, .getfield 9, [4, 0, 1], nS) :: (137, .aload_n 0, [], nS) :: (138, .getfield 22, [4, 3, 0], nS) :: (141, .iaload, [], nS) :: (142, .invokestatic 129, [0, 1, 0, 0], S_X4_sortOf) :: (145, .aload_n 0, [], nS) :: (146, .getfield 32, [4, 4, 0], nS) :: (149, .if_icmp .ne 16, [165], nS) :: (152, .aload_n 0, [], nS) :: (153, .dup, [], nS) :: (154, .getfield 22, [4, 3, 0], nS) :: (157, .iconst 1, [], nS) :: (158, .iadd, [], nS) :: (159, .putfield 22, [4, 3, 0], nS) :: (162, .goto (-44), [118], nS) :: L_X4_nextToken_165
def L_X4_nextToken_117 : List Item := (117, .istore_n 1, [], nS) :: (118, .nop, [], nS) :: L_X4_nextToken_118
def L_X4_nextToken_116 : List Item := (116, .iconst 0, [], nS) :: L_X4_nextToken_117
def L_X4_nextToken_112 : List Item := (112, .iconst 1, [], nS) :: (113, .goto 4, [117], nS) :: L_X4_nextToken_116
def L_X4_nextToken_71 : List Item := (71, .aload_n 0, [], nS) :: (72, .aload_n 0, [], nS) :: (73, .getfield 9, [4, 0, 1], nS) :: (76, .aload_n 0, [], nS) :: (77, .getfield 122, [4, 2, 0], nS) :: (80, .iaload, [], nS) :: (81, .invokestatic 129, [0, 1, 0, 0], S_X4_sortOf) :: (84, .putfield 32, [4, 4, 0], nS) :: (87, .aload_n 0, [], nS) :: (88, .dup, [], nS) :: (89, .getfield 22, [4, 3, 0], nS) :: (92, .iconst 1, [], nS) :: (93, .iadd, [], nS) :: (94, .putfield 22, [4, 3, 0], nS) :: (97, .aload_n 0, [], nS) :: (98, .getfield 32, [4, 4, 0], nS) :: (101, .ifCond .eq 11, [112], nS) :: (104, .aload_n 0, [], nS) :: (105, .getfield 32, [4, 4, 0], nS) :: (108, .iconst 1, [], nS) :: (109, .if_icmp .ne 7, [116], nS) :: L_X4_nextToken_112
def L_X4_nextToken_46 : List Item := (46, .aload_n 0, [], nS) :: (47, .aload_n 0, [], nS) :: (48, .getfield 122, [4, 2, 0], nS) :: (51, .putfield 22, [4, 3, 0], nS) :: (54, .aload_n 0, [], nS) :: (55, .getfield 122, [4, 2, 0], nS) :: (58, .aload_n 0, [], nS) :: (59, .getfield 18, [4, 1, 0], nS) :: (62, .if_icmp .lt 9, [71], nS) :: (65, .aload_n 0, [], nS) :: (66, .iconst 4, [], nS) :: (67, .putfield 32, [4, 4, 0], nS) :: (70, .return_, [], nS) :: L_X4_nextToken_71
def L_X4_nextToken_8 : List Item := (8, .aload_n 0, [], nS) :: (9, .getfield 122, [4, 2, 0], nS) :: (12, .aload_n 0, [], nS) :: (13, .getfield 18, [4, 1, 0], nS) :: (16, .if_icmp .ge 30, [46], nS) :: (19, .aload_n 0, [], nS) :: (20, .getfield 9, [4, 0, 1], nS) :: (23, .aload_n 0, [], nS) :: (24, .getfield 122, [4, 2, 0], nS) :: (27, .iaload, [], nS) :: (28, .bipush 32, [], nS) :: (30, .if_icmp .ne 16, [46], nS) :: (33, .aload_n 0, [], nS) :: (34, .dup, [], nS) :: (35, .getfield 122, [4, 2, 0], nS) :: (38, .iconst 1, [], nS) :: (39, .iadd, [], nS) :: (40, .putfield 122, [4, 2, 0], nS) :: (43, .goto (-35), [8], nS) :: L_X4_nextToken_46
def L_X4_nextToken_0 : List Item := (0, .aload_n 0, [], nS) :: (1, .aload_n 0, [], nS) :: (2, .getfield 22, [4, 3, 0], nS) :: (5, .putfield 122, [4, 2, 0], nS) :: (8, .nop, [], nS) :: L_X4_nextToken_8
def L_X4_nextToken : List Item := L_X4_nextToken_0
theorem ok_X4_nextToken : okB cX4_nextToken L_X4_nextToken = true := by decide +kernel
theorem lk_X4_nextToken (l : Launch) : LKs l RX4 2 false L_X4_nextToken := ⟨trivial, trivial, ⟨_, _, _, rfl, ⟨(RX4, TX4, 6), rfl, by decide, gT_of (List.mem_of_getElem? (i := 141) (by decide +kernel)) rfl⟩, rfl⟩, ⟨_, _, _, rfl, ⟨(RX4, TX4, 6), rfl, by decide, gT_of (List.mem_of_getElem? (i := 139) (by decide +kernel)) rfl⟩, rfl, fun q => absurd rfl q⟩, trivial, trivial, ⟨_, _, _, rfl, ⟨(RX4, TX4, 6), rfl, by decide, gT_of (List.mem_of_getElem? (i := 139) (by decide +kernel)) rfl⟩, rfl⟩, trivial, ⟨_, _, _, rfl, ⟨(RX4, TX4, 6), rfl, by decide, gT_of (List.mem_of_getElem? (i := 137) (by decide +kernel)) rfl⟩, rfl⟩, trivial, trivial, ⟨_, _, _, rfl, ⟨(RX4, TX4, 6), rfl, by decide, gT_of (List.mem_of_getElem? (i := 136) (by decide +kernel)) rfl⟩, rfl⟩, trivial, ⟨_, _, _, rfl, ⟨(RX4, TX4, 6), rfl, by decide, gT_of (List.mem_of_getElem? (i := 139) (by decide +kernel)) rfl⟩, rfl⟩, trivial, trivial, trivial, trivial, trivial, ⟨_, _, _, rfl, ⟨(RX4, TX4, 6), rfl, by decide, gT_of (List.mem_of_getElem? (i := 139) (by decide +kernel)) rfl⟩, rfl⟩, trivial, trivial, ⟨_, _, _, rfl, ⟨(RX4, TX4, 6), rfl, by decide, gT_of (List.mem_of_getElem? (i := 139) (by decide +kernel)) rfl⟩, rfl, fun q => absurd rfl q⟩, trivial, trivial, trivial, ⟨_, _, _, rfl, ⟨(RX4, TX4, 6), rfl, by decide, gT_of (List.mem_of_getElem? (i := 139) (by decide +kernel)) rfl⟩, rfl⟩, ⟨_, _, _, rfl, ⟨(RX4, TX4, 6), rfl, by decide, gT_of (List.mem_of_getElem? (i := 141) (by decide +kernel)) rfl⟩, rfl, fun q => absurd rfl q⟩, trivial, ⟨_, _, _, rfl, ⟨(RX4, TX4, 6), rfl, by decide, gT_of (List.mem_of_getElem? (i := 139) (by decide +kernel)) rfl⟩, rfl⟩, trivial, ⟨_, _, _, rfl, ⟨(RX4, TX4, 6), rfl, by decide, gT_of (List.mem_of_getElem? (i := 137) (by decide +kernel)) rfl⟩, rfl⟩, trivial, trivial, trivial, ⟨_, _, _, rfl, ⟨(RX4, TX4, 6), rfl, by decide, gT_of (List.mem_of_getElem? (i := 142) (by decide +kernel)) rfl⟩, rfl, fun q => absurd rfl q⟩, trivial, trivial, trivial, ⟨_, _, _, rfl, ⟨(RX4, TX4, 6), rfl, by decide, gT_of (List.mem_of_getElem? (i := 136) (by decide +kernel)) rfl⟩, rfl⟩, trivial, ⟨_, _, _, rfl, ⟨(RX4, TX4, 6), rfl, by decide, gT_of (List.mem_of_getElem? (i := 139) (by decide +kernel)) rfl⟩, rfl⟩, trivial, Or.inl ⟨_, _, _, _, _, _, _, _, rfl, c_X4_sortOf l, yv_X4_sortOf, by decide, gT_of (List.mem_of_getElem? (i := 324) (by decide +kernel)) rfl⟩, ⟨_, _, _, rfl, ⟨(RX4, TX4, 6), rfl, by decide, gT_of (List.mem_of_getElem? (i := 142) (by decide +kernel)) rfl⟩, rfl, fun q => absurd rfl q⟩, trivial, trivial, ⟨_, _, _, rfl, ⟨(RX4, TX4, 6), rfl, by decide, gT_of (List.mem_of_getElem? (i := 141) (by decide +kernel)) rfl⟩, rfl⟩, trivial, trivial, ⟨_, _, _, rfl, ⟨(RX4, TX4, 6), rfl, by decide, gT_of (List.mem_of_getElem? (i := 141) (by decide +kernel)) rfl⟩, rfl, fun q => absurd rfl q⟩, trivial, ⟨_, _, _, rfl, ⟨(RX4, TX4, 6), rfl, by decide, gT_of (List.mem_of_getElem? (i := 142) (by decide +kernel)) rfl⟩, rfl⟩, trivial, trivial, ⟨_, _, _, rfl, ⟨(RX4, TX4, 6), rfl, by decide, gT_of (List.mem_of_getElem? (i := 142) (by decide +kernel)) rfl⟩, rfl⟩, trivial, trivial, trivial, trivial, trivial, trivial, trivial, trivial, trivial, trivial, ⟨_, _, _, rfl, ⟨(RX4, TX4, 6), rfl, by decide, gT_of (List.mem_of_getElem? (i := 141) (by decide +kernel)) rfl⟩, rfl⟩, trivial, ⟨_, _, _, rfl, ⟨(RX4, TX4, 6), rfl, by decide, gT_of (List.mem_of_getElem? (i := 137) (by decide +kernel)) rfl⟩, rfl⟩, trivial, trivial, ⟨_, _, _, rfl, ⟨(RX4, TX4, 6), rfl, by decide, gT_of (List.mem_of_getElem? (i := 136) (by decide +kernel)) rfl⟩, rfl⟩, trivial, ⟨_, _, _, rfl, ⟨(RX4, TX4, 6), rfl, by decide, gT_of (List.mem_of_getElem? (i := 141) (by decide +kernel)) rfl⟩, rfl⟩, trivial, Or.inl ⟨_, _, _, _, _, _, _, _, rfl, c_X4_sortOf l, yv_X4_sortOf, by decide, gT_of (List.mem_of_getElem? (i := 324) (by decide +kernel)) rfl⟩, trivial, ⟨_, _, _, rfl, ⟨(RX4, TX4, 6), rfl, by decide, gT_of (List.mem_of_getElem? (i := 142) (by decide +kernel)) rfl⟩, rfl⟩, trivial, trivial, trivial, ⟨_, _, _, rfl, ⟨(RX4, TX4, 6), rfl, by decide, gT_of (List.mem_of_getElem? (i := 141) (by decide +kernel)) rfl⟩, rfl⟩, trivial, trivial, ⟨_, _, _, rfl, ⟨(RX4, TX4, 6), rfl, by decide, gT_of (List.mem_of_getElem? (i := 141) (by decide +kernel)) rfl⟩, rfl, fun q => absurd rfl q⟩, trivial, trivial, trivial⟩
theorem b_X4_nextToken_0 : atL L_X4_nextToken 0 = L_X4_nextToken_0 := rfl
theorem b_X4_nextToken_8 : atL L_X4_nextToken 8 = L_X4_nextToken_8 := rfl
theorem b_X4_nextToken_46 : atL L_X4_nextToken 46 = L_X4_nextToken_46 := rfl
theorem b_X4_nextToken_71 : atL L_X4_nextToken 71 = L_X4_nextToken_71 := rfl
theorem b_X4_nextToken_112 : atL L_X4_nextToken 112 = L_X4_nextToken_112 := rfl
theorem b_X4_nextToken_116 : atL L_X4_nextToken 116 = L_X4_nextToken_116 := rfl
theorem b_X4_nextToken_117 : atL L_X4_nextToken 117 = L_X4_nextToken_117 := rfl
theorem b_X4_nextToken_118 : atL L_X4_nextToken 118 = L_X4_nextToken_118 := rfl
theorem b_X4_nextToken_165 : atL L_X4_nextToken 165 = L_X4_nextToken_165 := rfl
theorem a_X4_nextToken_46 : afw L_X4_nextToken [8, 118] 46 = L_X4_nextToken_46 := rfl
theorem a_X4_nextToken_71 : afw L_X4_nextToken [8, 118] 71 = L_X4_nextToken_71 := rfl
theorem a_X4_nextToken_112 : afw L_X4_nextToken [8, 118] 112 = L_X4_nextToken_112 := rfl
theorem a_X4_nextToken_116 : afw L_X4_nextToken [8, 118] 116 = L_X4_nextToken_116 := rfl
theorem a_X4_nextToken_117 : afw L_X4_nextToken [8, 118] 117 = L_X4_nextToken_117 := rfl
theorem a_X4_nextToken_165 : afw L_X4_nextToken [8, 118] 165 = L_X4_nextToken_165 := rfl
theorem a_X4_nextToken_8 : afw L_X4_nextToken [8, 118] 8 = [] := rfl
theorem a_X4_nextToken_118 : afw L_X4_nextToken [8, 118] 118 = [] := rfl
theorem yv_X4_nextToken : YV yX4_nextToken cX4_nextToken 2 none 0 4 := ⟨⟨gT_of (List.mem_of_getElem? (i := 323) (by decide +kernel)) rfl, gT_of (List.mem_of_getElem? (i := 29) (by decide +kernel)) rfl, ⟨by decide, by decide⟩, by decide +kernel, by decide⟩, gT_of (List.mem_of_getElem? (i := 322) (by decide +kernel)) rfl, gT_of (List.mem_of_getElem? (i := 4) (by decide +kernel)) rfl, rfl⟩
theorem u_X4_nextToken_0 : L_X4_nextToken_0 = (0, .aload_n 0, [], nS) :: (1, .aload_n 0, [], nS) :: (2, .getfield 22, [4, 3, 0], nS) :: (5, .putfield 122, [4, 2, 0], nS) :: (8, .nop, [], nS) :: L_X4_nextToken_8 := nr rfl
theorem u_X4_nextToken_8 : L_X4_nextToken_8 = (8, .aload_n 0, [], nS) :: (9, .getfield 122, [4, 2, 0], nS) :: (12, .aload_n 0, [], nS) :: (13, .getfield 18, [4, 1, 0], nS) :: (16, .if_icmp .ge 30, [46], nS) :: (19, .aload_n 0, [], nS) :: (20, .getfield 9, [4, 0, 1], nS) :: (23, .aload_n 0, [], nS) :: (24, .getfield 122, [4, 2, 0], nS) :: (27, .iaload, [], nS) :: (28, .bipush 32, [], nS) :: (30, .if_icmp .ne 16, [46], nS) :: (33, .aload_n 0, [], nS) :: (34, .dup, [], nS) :: (35, .getfield 122, [4, 2, 0], nS) :: (38, .iconst 1, [], nS) :: (39, .iadd, [], nS) :: (40, .putfield 122, [4, 2, 0], nS) :: (43, .goto (-35), [8], nS) :: L_X4_nextToken_46 := nr rfl
theorem u_X4_nextToken_46 : L_X4_nextToken_46 = (46, .aload_n 0, [], nS) :: (47, .aload_n 0, [], nS) :: (48, .getfield 122, [4, 2, 0], nS) :: (51, .putfield 22, [4, 3, 0], nS) :: (54, .aload_n 0, [], nS) :: (55, .getfield 122, [4, 2, 0], nS) :: (58, .aload_n 0, [], nS) :: (59, .getfield 18, [4, 1, 0], nS) :: (62, .if_icmp .lt 9, [71], nS) :: (65, .aload_n 0, [], nS) :: (66, .iconst 4, [], nS) :: (67, .putfield 32, [4, 4, 0], nS) :: (70, .return_, [], nS) :: L_X4_nextToken_71 := nr rfl
theorem u_X4_nextToken_71 : L_X4_nextToken_71 = (71, .aload_n 0, [], nS) :: (72, .aload_n 0, [], nS) :: (73, .getfield 9, [4, 0, 1], nS) :: (76, .aload_n 0, [], nS) :: (77, .getfield 122, [4, 2, 0], nS) :: (80, .iaload, [], nS) :: (81, .invokestatic 129, [0, 1, 0, 0], S_X4_sortOf) :: (84, .putfield 32, [4, 4, 0], nS) :: (87, .aload_n 0, [], nS) :: (88, .dup, [], nS) :: (89, .getfield 22, [4, 3, 0], nS) :: (92, .iconst 1, [], nS) :: (93, .iadd, [], nS) :: (94, .putfield 22, [4, 3, 0], nS) :: (97, .aload_n 0, [], nS) :: (98, .getfield 32, [4, 4, 0], nS) :: (101, .ifCond .eq 11, [112], nS) :: (104, .aload_n 0, [], nS) :: (105, .getfield 32, [4, 4, 0], nS) :: (108, .iconst 1, [], nS) :: (109, .if_icmp .ne 7, [116], nS) :: L_X4_nextToken_112 := nr rfl
theorem u_X4_nextToken_112 : L_X4_nextToken_112 = (112, .iconst 1, [], nS) :: (113, .goto 4, [117], nS) :: L_X4_nextToken_116 := nr rfl
theorem u_X4_nextToken_116 : L_X4_nextToken_116 = (116, .iconst 0, [], nS) :: L_X4_nextToken_117 := nr rfl
theorem u_X4_nextToken_117 : L_X4_nextToken_117 = (117, .istore_n 1, [], nS) :: (118, .nop, [], nS) :: L_X4_nextToken_118 := nr rfl
theorem u_X4_nextToken_118 : L_X4_nextToken_118 = (118, .iload_n 1, [], nS) :: (119, .ifCond .eq 46, [165], nS) :: (122, .aload_n 0, [], nS) :: (123, .getfield 22, [4, 3, 0], nS) :: (126, .aload_n 0, [], nS) :: (127, .getfield 18, [4, 1, 0], nS) :: (130, .if_icmp .ge 35, [165], nS) :: (133, .aload_n 0, [], nS) :: (134, .getfield 9, [4, 0, 1], nS) :: (137, .aload_n 0, [], nS) :: (138, .getfield 22, [4, 3, 0], nS) :: (141, .iaload, [], nS) :: (142, .invokestatic 129, [0, 1, 0, 0], S_X4_sortOf) :: (145, .aload_n 0, [], nS) :: (146, .getfield 32, [4, 4, 0], nS) :: (149, .if_icmp .ne 16, [165], nS) :: (152, .aload_n 0, [], nS) :: (153, .dup, [], nS) :: (154, .getfield 22, [4, 3, 0], nS) :: (157, .iconst 1, [], nS) :: (158, .iadd, [], nS) :: (159, .putfield 22, [4, 3, 0], nS) :: (162, .goto (-44), [118], nS) :: L_X4_nextToken_165 := nr rfl
theorem u_X4_nextToken_165 : L_X4_nextToken_165 = (165, .return_, [], nS) :: [] := nr rfl
theorem z_X4_nextToken_0 : atL L_X4_nextToken 0 = L_X4_nextToken_0 := nr rfl
theorem z_X4_nextToken_8 : atL L_X4_nextToken 8 = L_X4_nextToken_8 := nr rfl
theorem z_X4_nextToken_46 : atL L_X4_nextToken 46 = L_X4_nextToken_46 := nr rfl
theorem z_X4_nextToken_71 : atL L_X4_nextToken 71 = L_X4_nextToken_71 := nr rfl
theorem z_X4_nextToken_112 : atL L_X4_nextToken 112 = L_X4_nextToken_112 := nr rfl
theorem z_X4_nextToken_116 : atL L_X4_nextToken 116 = L_X4_nextToken_116 := nr rfl
theorem z_X4_nextToken_117 : atL L_X4_nextToken 117 = L_X4_nextToken_117 := nr rfl
theorem z_X4_nextToken_118 : atL L_X4_nextToken 118 = L_X4_nextToken_118 := nr rfl
set_option maxRecDepth 100000 in
theorem z_X4_nextToken_165 : atL L_X4_nextToken 165 = L_X4_nextToken_165 := nr rfl
theorem j_X4_nextToken_46 {G : List Item → SpS → List Value → List Value → AH → Prop} {J : Nat → SpS → List Value → List Value → AH → Prop} {S : SpS} {lv st : List Value} {h : AH} : jmp G J (afw L_X4_nextToken [8, 118] 46) 46 S lv st h = G L_X4_nextToken_46 S lv st h := nr rfl
theorem j_X4_nextToken_71 {G : List Item → SpS → List Value → List Value → AH → Prop} {J : Nat → SpS → List Value → List Value → AH → Prop} {S : SpS} {lv st : List Value} {h : AH} : jmp G J (afw L_X4_nextToken [8, 118] 71) 71 S lv st h = G L_X4_nextToken_71 S lv st h := nr rfl
theorem j_X4_nextToken_112 {G : List Item → SpS → List Value → List Value → AH → Prop} {J : Nat → SpS → List Value → List Value → AH → Prop} {S : SpS} {lv st : List Value} {h : AH} : jmp G J (afw L_X4_nextToken [8, 118] 112) 112 S lv st h = G L_X4_nextToken_112 S lv st h := nr rfl
theorem j_X4_nextToken_116 {G : List Item → SpS → List Value → List Value → AH → Prop} {J : Nat → SpS → List Value → List Value → AH → Prop} {S : SpS} {lv st : List Value} {h : AH} : jmp G J (afw L_X4_nextToken [8, 118] 116) 116 S lv st h = G L_X4_nextToken_116 S lv st h := nr rfl
theorem j_X4_nextToken_117 {G : List Item → SpS → List Value → List Value → AH → Prop} {J : Nat → SpS → List Value → List Value → AH → Prop} {S : SpS} {lv st : List Value} {h : AH} : jmp G J (afw L_X4_nextToken [8, 118] 117) 117 S lv st h = G L_X4_nextToken_117 S lv st h := nr rfl
set_option maxRecDepth 100000 in
theorem j_X4_nextToken_165 {G : List Item → SpS → List Value → List Value → AH → Prop} {J : Nat → SpS → List Value → List Value → AH → Prop} {S : SpS} {lv st : List Value} {h : AH} : jmp G J (afw L_X4_nextToken [8, 118] 165) 165 S lv st h = G L_X4_nextToken_165 S lv st h := nr rfl
theorem j_X4_nextToken_8 {G : List Item → SpS → List Value → List Value → AH → Prop} {J : Nat → SpS → List Value → List Value → AH → Prop} {S : SpS} {lv st : List Value} {h : AH} : jmp G J (afw L_X4_nextToken [8, 118] 8) 8 S lv st h = J 8 S lv st h := nr rfl
theorem j_X4_nextToken_118 {G : List Item → SpS → List Value → List Value → AH → Prop} {J : Nat → SpS → List Value → List Value → AH → Prop} {S : SpS} {lv st : List Value} {h : AH} : jmp G J (afw L_X4_nextToken [8, 118] 118) 118 S lv st h = J 118 S lv st h := nr rfl
theorem e_X4_nextToken {c : Addr} {h : AH} {K2 : Option Value → SpS → AH → Prop} : S_X4_nextToken (SHn nn) [.ref c] h K2 = (fun (K : Option Value → AH → Prop) => c = 40 ∧ ∃ n e : Nat, n ≤ 250 ∧ e ≤ n ∧ gI h 40 1 = nI n ∧ gI h 40 3 = nI e ∧ ∀ h', tokAt h' (nextB (gI h 41) n e) → frT h h' → K none h') (fun v h' => K2 v (SHn nn) h') := (lift_e P_X4_nextToken [.ref c] h K2).trans (nr rfl)
set_option maxRecDepth 100000 in
set_option maxHeartbeats 4000000 in
theorem c_X4_nextToken (l : Launch) : Ct l yX4_nextToken cX4_nextToken 2 none 2 0 0 S_X4_nextToken := by
  refine Ct0_mk L_X4_nextToken [8, 118] (by decide +kernel) (by decide) ok_X4_nextToken (lk_X4_nextToken l) ?_
  intro nn as h K hP
  match as, hP with
  | [.ref c], ⟨hc, n, e, hn, he, g1, g3_, hK⟩ =>
  refine ⟨by simp [slotsN, Value.category], fun J hJ => ?_⟩
  subst hc
  generalize hB : gI h 41 = B at *
  have grow : ∀ k s R, (∀ h', tokAt h' (s, R, k) → frT h h' → K none (SHn nn) h') → ∀ r i h2, i + r = n → runB B k r i = R → gI h2 40 2 = nI s → gI h2 40 3 = nI i → gI h2 40 4 = k → frT h h2 → J 118 (SHn nn) [.ref 40, .int 1] [] h2 := by
    intro k s R hK2 r
    induction r with
    | zero =>
      intro i h2 hi hr c2 c3 c4 hf
      have b1 : gI h2 40 1 = nI n := (frT_S hf).trans g1
      obtain rfl : i = n := by omega
      refine hJ 118 _ _ _ _ ?_
      simp only [z_X4_nextToken_118, u_X4_nextToken_0, u_X4_nextToken_8, u_X4_nextToken_46, u_X4_nextToken_71, u_X4_nextToken_112, u_X4_nextToken_116, u_X4_nextToken_117, u_X4_nextToken_118, u_X4_nextToken_165, j_X4_nextToken_8, j_X4_nextToken_46, j_X4_nextToken_71, j_X4_nextToken_112, j_X4_nextToken_116, j_X4_nextToken_117, j_X4_nextToken_118, j_X4_nextToken_165, ev_aload_n0, ev_getfI, ev_putfI, ev_nop, ev_ic_ge, ev_getfR, ev_iaload, ev_bipush, ev_ic_ne, ev_dup_int, ev_dup_ref, ev_iconst, ev_iadd, ev_goto, ev_ic_lt, ev_vret, ev_callS1, ev_if_eq, ev_istore_n1, ev_iload_n1, ↓e_X4_sortOf, capO_z, kb_6, kb_11, kb_13, kb_15, kb_17, kb_18, kb_19, kb_23, kb_24, kb_25, kb_26, kb_29, kb_31, kb_35, kb_37, kb_41, kb_43, kb_44, kb_61, kb_75, kb_104, kb_7, kb_8, kb_9, kb_10, kb_12, kb_16, kb_20, kb_21, kb_30, kb_32, kb_40, kb_48, kb_50, kb_57, kb_59, kb_60, kb_63, kb_70, kb_78, kb_81, kb_82, kb_84, kb_97, kb_99, kb_100, kb_101, kb_119, kb_120, kb_122, ki_m1, ki_0, ki_1, ki_2, ki_3, ki_4, ki_5, ki_6, ki_7, ki_8, ki_9, ki_10, ki_11, ki_12, ki_13, ki_14, ki_15, ki_16, ki_17, ki_18, ki_19, ki_20, ki_21, ki_22, ki_23, ki_24, ki_25, ki_26, ki_27, ki_28, ki_29, ki_30, ki_31, ki_32, ki_33, ki_34, ki_35, ki_36, ki_37, ki_38, ki_39, ki_40, ki_41, ki_42, ki_43, ki_44, ki_45, ki_46, ki_47, ki_48, ki_49, ki_50, ki_51, ki_52, ki_53, ki_54, ki_55, ki_56, ki_57, ki_58, ki_59, ki_60, ki_61, ki_62, ki_63, ks_m2000, ks_m1006, ks_m1005, ks_m1004, ks_m1003, ks_m1002, ks_m1000, ks_200, ks_201, ks_300, ks_720, ks_9000, ks_10000, ks_250, ks_255, ks_256, ks_320, ks_660, ks_999, ks_1000, ks_9999, ks_12345, ne_2, ne_10, t_0, t_40, t_41, t_42, t_43, t_44, t_45, t_46, t_47, r_0_0, r_0_1, r_0_2, r_0_4, r_0_5, r_0_6, r_0_7, r_40_0, r_40_5, r_44_0, r_44_1, t_1, t_14, t_27, t_2, t_15, t_28, t_64, Nat.reduceEqDiff, ne_eq, not_false_eq_true, false_implies, true_implies, implies_true, Nat.reduceAdd, Nat.reduceLeDiff, Nat.reduceLT, Nat.reduceMul, or_true, true_or, if_true, if_false, not_true_eq_false, and_self, bF, Nat.reduceBEq, Bool.false_and, Bool.and_false, Bool.or_self, Bool.or_false, Bool.false_or, Bool.false_eq_true, Int.reduceAdd, Bool.and_self, Bool.true_and, Bool.and_true, beq_self_eq_true, not_not_, i10_, i01_, List.length_nil, List.length_cons, true_and, and_true, false_and, and_false, kl_i, kl_a, kl_n, kl_l, tl_s, tl_n, rv_S, pd_0, pd_e, pd_r, pd_i, pd_l, c3, b1, lpT (show i < 2147483648 by omega), one_z]
      exact hK2 _ ⟨c2, by rw [c3, ← hr]; rfl, c4⟩ hf
    | succ r ih =>
      intro i h2 hi hr c2 c3 c4 hf
      have b1 : gI h2 40 1 = nI n := (frT_S hf).trans g1
      have bB : gI h2 41 = B := (frT_B hf).trans hB
      rw [runB_s] at hr
      refine hJ 118 _ _ _ _ ?_
      simp only [z_X4_nextToken_118, u_X4_nextToken_0, u_X4_nextToken_8, u_X4_nextToken_46, u_X4_nextToken_71, u_X4_nextToken_112, u_X4_nextToken_116, u_X4_nextToken_117, u_X4_nextToken_118, u_X4_nextToken_165, j_X4_nextToken_8, j_X4_nextToken_46, j_X4_nextToken_71, j_X4_nextToken_112, j_X4_nextToken_116, j_X4_nextToken_117, j_X4_nextToken_118, j_X4_nextToken_165, ev_aload_n0, ev_getfI, ev_putfI, ev_nop, ev_ic_ge, ev_getfR, ev_iaload, ev_bipush, ev_ic_ne, ev_dup_int, ev_dup_ref, ev_iconst, ev_iadd, ev_goto, ev_ic_lt, ev_vret, ev_callS1, ev_if_eq, ev_istore_n1, ev_iload_n1, ↓e_X4_sortOf, capO_z, kb_6, kb_11, kb_13, kb_15, kb_17, kb_18, kb_19, kb_23, kb_24, kb_25, kb_26, kb_29, kb_31, kb_35, kb_37, kb_41, kb_43, kb_44, kb_61, kb_75, kb_104, kb_7, kb_8, kb_9, kb_10, kb_12, kb_16, kb_20, kb_21, kb_30, kb_32, kb_40, kb_48, kb_50, kb_57, kb_59, kb_60, kb_63, kb_70, kb_78, kb_81, kb_82, kb_84, kb_97, kb_99, kb_100, kb_101, kb_119, kb_120, kb_122, ki_m1, ki_0, ki_1, ki_2, ki_3, ki_4, ki_5, ki_6, ki_7, ki_8, ki_9, ki_10, ki_11, ki_12, ki_13, ki_14, ki_15, ki_16, ki_17, ki_18, ki_19, ki_20, ki_21, ki_22, ki_23, ki_24, ki_25, ki_26, ki_27, ki_28, ki_29, ki_30, ki_31, ki_32, ki_33, ki_34, ki_35, ki_36, ki_37, ki_38, ki_39, ki_40, ki_41, ki_42, ki_43, ki_44, ki_45, ki_46, ki_47, ki_48, ki_49, ki_50, ki_51, ki_52, ki_53, ki_54, ki_55, ki_56, ki_57, ki_58, ki_59, ki_60, ki_61, ki_62, ki_63, ks_m2000, ks_m1006, ks_m1005, ks_m1004, ks_m1003, ks_m1002, ks_m1000, ks_200, ks_201, ks_300, ks_720, ks_9000, ks_10000, ks_250, ks_255, ks_256, ks_320, ks_660, ks_999, ks_1000, ks_9999, ks_12345, ne_2, ne_10, t_0, t_40, t_41, t_42, t_43, t_44, t_45, t_46, t_47, r_0_0, r_0_1, r_0_2, r_0_4, r_0_5, r_0_6, r_0_7, r_40_0, r_40_5, r_44_0, r_44_1, t_1, t_14, t_27, t_2, t_15, t_28, t_64, Nat.reduceEqDiff, ne_eq, not_false_eq_true, false_implies, true_implies, implies_true, Nat.reduceAdd, Nat.reduceLeDiff, Nat.reduceLT, Nat.reduceMul, or_true, true_or, if_true, if_false, not_true_eq_false, and_self, bF, Nat.reduceBEq, Bool.false_and, Bool.and_false, Bool.or_self, Bool.or_false, Bool.false_or, Bool.false_eq_true, Int.reduceAdd, Bool.and_self, Bool.true_and, Bool.and_true, beq_self_eq_true, not_not_, i10_, i01_, List.length_nil, List.length_cons, true_and, and_true, false_and, and_false, kl_i, kl_a, kl_n, kl_l, tl_s, tl_n, rv_S, pd_0, pd_e, pd_r, pd_i, pd_l, c3, b1, bB, c4, lpF (show i < n by omega) (show n < 2147483648 by omega), one_z, vp250 (show i < 250 by omega), nI_clamp (show i < 2 ^ 31 by omega), nI_1]
      refine ⟨fun q => ?_, fun q => ?_⟩
      · rw [if_neg q] at hr
        exact hK2 _ ⟨c2, by rw [c3, ← hr], c4⟩ hf
      · rw [if_pos q] at hr
        refine ih (i + 1) _ (by omega) hr ?_ ?_ ?_ (frT_t hf (by omega))
        · rw [gT_t, if_neg (by omega)]; exact c2
        · rw [gT_t, if_pos rfl]
        · rw [gT_t, if_neg (by omega)]; exact c4
  refine hJ 0 _ _ _ _ ?_
  simp only [z_X4_nextToken_0, u_X4_nextToken_0, u_X4_nextToken_8, u_X4_nextToken_46, u_X4_nextToken_71, u_X4_nextToken_112, u_X4_nextToken_116, u_X4_nextToken_117, u_X4_nextToken_118, u_X4_nextToken_165, j_X4_nextToken_8, j_X4_nextToken_46, j_X4_nextToken_71, j_X4_nextToken_112, j_X4_nextToken_116, j_X4_nextToken_117, j_X4_nextToken_118, j_X4_nextToken_165, ev_aload_n0, ev_getfI, ev_putfI, ev_nop, ev_ic_ge, ev_getfR, ev_iaload, ev_bipush, ev_ic_ne, ev_dup_int, ev_dup_ref, ev_iconst, ev_iadd, ev_goto, ev_ic_lt, ev_vret, ev_callS1, ev_if_eq, ev_istore_n1, ev_iload_n1, ↓e_X4_sortOf, capO_z, kb_6, kb_11, kb_13, kb_15, kb_17, kb_18, kb_19, kb_23, kb_24, kb_25, kb_26, kb_29, kb_31, kb_35, kb_37, kb_41, kb_43, kb_44, kb_61, kb_75, kb_104, kb_7, kb_8, kb_9, kb_10, kb_12, kb_16, kb_20, kb_21, kb_30, kb_32, kb_40, kb_48, kb_50, kb_57, kb_59, kb_60, kb_63, kb_70, kb_78, kb_81, kb_82, kb_84, kb_97, kb_99, kb_100, kb_101, kb_119, kb_120, kb_122, ki_m1, ki_0, ki_1, ki_2, ki_3, ki_4, ki_5, ki_6, ki_7, ki_8, ki_9, ki_10, ki_11, ki_12, ki_13, ki_14, ki_15, ki_16, ki_17, ki_18, ki_19, ki_20, ki_21, ki_22, ki_23, ki_24, ki_25, ki_26, ki_27, ki_28, ki_29, ki_30, ki_31, ki_32, ki_33, ki_34, ki_35, ki_36, ki_37, ki_38, ki_39, ki_40, ki_41, ki_42, ki_43, ki_44, ki_45, ki_46, ki_47, ki_48, ki_49, ki_50, ki_51, ki_52, ki_53, ki_54, ki_55, ki_56, ki_57, ki_58, ki_59, ki_60, ki_61, ki_62, ki_63, ks_m2000, ks_m1006, ks_m1005, ks_m1004, ks_m1003, ks_m1002, ks_m1000, ks_200, ks_201, ks_300, ks_720, ks_9000, ks_10000, ks_250, ks_255, ks_256, ks_320, ks_660, ks_999, ks_1000, ks_9999, ks_12345, ne_2, ne_10, t_0, t_40, t_41, t_42, t_43, t_44, t_45, t_46, t_47, r_0_0, r_0_1, r_0_2, r_0_4, r_0_5, r_0_6, r_0_7, r_40_0, r_40_5, r_44_0, r_44_1, t_1, t_14, t_27, t_2, t_15, t_28, t_64, Nat.reduceEqDiff, ne_eq, not_false_eq_true, false_implies, true_implies, implies_true, Nat.reduceAdd, Nat.reduceLeDiff, Nat.reduceLT, Nat.reduceMul, or_true, true_or, if_true, if_false, not_true_eq_false, and_self, bF, Nat.reduceBEq, Bool.false_and, Bool.and_false, Bool.or_self, Bool.or_false, Bool.false_or, Bool.false_eq_true, Int.reduceAdd, Bool.and_self, Bool.true_and, Bool.and_true, beq_self_eq_true, not_not_, i10_, i01_, List.length_nil, List.length_cons, true_and, and_true, false_and, and_false, kl_i, kl_a, kl_n, kl_l, tl_s, tl_n, rv_S, pd_0, pd_e, pd_r, pd_i, pd_l, g3_]
  have key : ∀ r i h1, i + r = n → skipB B r i = skipB B (n - e) e → gI h1 40 2 = nI i → frT h h1 → J 8 (SHn nn) [.ref 40, .null] [] h1 := by
    intro r
    induction r with
    | zero =>
      intro i h1 hi hs g2 hf
      have b1 : gI h1 40 1 = nI n := (frT_S hf).trans g1
      obtain rfl : i = n := by omega
      refine hJ 8 _ _ _ _ ?_
      simp only [z_X4_nextToken_8, u_X4_nextToken_0, u_X4_nextToken_8, u_X4_nextToken_46, u_X4_nextToken_71, u_X4_nextToken_112, u_X4_nextToken_116, u_X4_nextToken_117, u_X4_nextToken_118, u_X4_nextToken_165, j_X4_nextToken_8, j_X4_nextToken_46, j_X4_nextToken_71, j_X4_nextToken_112, j_X4_nextToken_116, j_X4_nextToken_117, j_X4_nextToken_118, j_X4_nextToken_165, ev_aload_n0, ev_getfI, ev_putfI, ev_nop, ev_ic_ge, ev_getfR, ev_iaload, ev_bipush, ev_ic_ne, ev_dup_int, ev_dup_ref, ev_iconst, ev_iadd, ev_goto, ev_ic_lt, ev_vret, ev_callS1, ev_if_eq, ev_istore_n1, ev_iload_n1, ↓e_X4_sortOf, capO_z, kb_6, kb_11, kb_13, kb_15, kb_17, kb_18, kb_19, kb_23, kb_24, kb_25, kb_26, kb_29, kb_31, kb_35, kb_37, kb_41, kb_43, kb_44, kb_61, kb_75, kb_104, kb_7, kb_8, kb_9, kb_10, kb_12, kb_16, kb_20, kb_21, kb_30, kb_32, kb_40, kb_48, kb_50, kb_57, kb_59, kb_60, kb_63, kb_70, kb_78, kb_81, kb_82, kb_84, kb_97, kb_99, kb_100, kb_101, kb_119, kb_120, kb_122, ki_m1, ki_0, ki_1, ki_2, ki_3, ki_4, ki_5, ki_6, ki_7, ki_8, ki_9, ki_10, ki_11, ki_12, ki_13, ki_14, ki_15, ki_16, ki_17, ki_18, ki_19, ki_20, ki_21, ki_22, ki_23, ki_24, ki_25, ki_26, ki_27, ki_28, ki_29, ki_30, ki_31, ki_32, ki_33, ki_34, ki_35, ki_36, ki_37, ki_38, ki_39, ki_40, ki_41, ki_42, ki_43, ki_44, ki_45, ki_46, ki_47, ki_48, ki_49, ki_50, ki_51, ki_52, ki_53, ki_54, ki_55, ki_56, ki_57, ki_58, ki_59, ki_60, ki_61, ki_62, ki_63, ks_m2000, ks_m1006, ks_m1005, ks_m1004, ks_m1003, ks_m1002, ks_m1000, ks_200, ks_201, ks_300, ks_720, ks_9000, ks_10000, ks_250, ks_255, ks_256, ks_320, ks_660, ks_999, ks_1000, ks_9999, ks_12345, ne_2, ne_10, t_0, t_40, t_41, t_42, t_43, t_44, t_45, t_46, t_47, r_0_0, r_0_1, r_0_2, r_0_4, r_0_5, r_0_6, r_0_7, r_40_0, r_40_5, r_44_0, r_44_1, t_1, t_14, t_27, t_2, t_15, t_28, t_64, Nat.reduceEqDiff, ne_eq, not_false_eq_true, false_implies, true_implies, implies_true, Nat.reduceAdd, Nat.reduceLeDiff, Nat.reduceLT, Nat.reduceMul, or_true, true_or, if_true, if_false, not_true_eq_false, and_self, bF, Nat.reduceBEq, Bool.false_and, Bool.and_false, Bool.or_self, Bool.or_false, Bool.false_or, Bool.false_eq_true, Int.reduceAdd, Bool.and_self, Bool.true_and, Bool.and_true, beq_self_eq_true, not_not_, i10_, i01_, List.length_nil, List.length_cons, true_and, and_true, false_and, and_false, kl_i, kl_a, kl_n, kl_l, tl_s, tl_n, rv_S, pd_0, pd_e, pd_r, pd_i, pd_l, g2, b1, lpT (show i < 2147483648 by omega), lt_ir, gT_t]
      refine hK _ ?_ (frT_t (frT_t hf (by omega)) (by omega))
      unfold nextB
      rw [← hs]
      unfold tokB
      rw [if_pos (show i ≤ skipB B 0 i from Nat.le_refl i)]
      refine ⟨?_, ?_, ?_⟩
      · rw [gT_t, if_neg (by omega), gT_t, if_neg (by omega)]; exact g2
      · rw [gT_t, if_neg (by omega), gT_t, if_pos rfl]; rfl
      · rw [gT_t, if_pos rfl]
    | succ r ih =>
      intro i h1 hi hs g2 hf
      have b1 : gI h1 40 1 = nI n := (frT_S hf).trans g1
      have bB : gI h1 41 = B := (frT_B hf).trans hB
      have lt : (nI i < nI n) = True := eq_true (Int32.not_le.mp (nI_ge (show i < n by omega) (by omega)))
      rw [skipB_s] at hs
      refine hJ 8 _ _ _ _ ?_
      simp only [z_X4_nextToken_8, u_X4_nextToken_0, u_X4_nextToken_8, u_X4_nextToken_46, u_X4_nextToken_71, u_X4_nextToken_112, u_X4_nextToken_116, u_X4_nextToken_117, u_X4_nextToken_118, u_X4_nextToken_165, j_X4_nextToken_8, j_X4_nextToken_46, j_X4_nextToken_71, j_X4_nextToken_112, j_X4_nextToken_116, j_X4_nextToken_117, j_X4_nextToken_118, j_X4_nextToken_165, ev_aload_n0, ev_getfI, ev_putfI, ev_nop, ev_ic_ge, ev_getfR, ev_iaload, ev_bipush, ev_ic_ne, ev_dup_int, ev_dup_ref, ev_iconst, ev_iadd, ev_goto, ev_ic_lt, ev_vret, ev_callS1, ev_if_eq, ev_istore_n1, ev_iload_n1, ↓e_X4_sortOf, capO_z, kb_6, kb_11, kb_13, kb_15, kb_17, kb_18, kb_19, kb_23, kb_24, kb_25, kb_26, kb_29, kb_31, kb_35, kb_37, kb_41, kb_43, kb_44, kb_61, kb_75, kb_104, kb_7, kb_8, kb_9, kb_10, kb_12, kb_16, kb_20, kb_21, kb_30, kb_32, kb_40, kb_48, kb_50, kb_57, kb_59, kb_60, kb_63, kb_70, kb_78, kb_81, kb_82, kb_84, kb_97, kb_99, kb_100, kb_101, kb_119, kb_120, kb_122, ki_m1, ki_0, ki_1, ki_2, ki_3, ki_4, ki_5, ki_6, ki_7, ki_8, ki_9, ki_10, ki_11, ki_12, ki_13, ki_14, ki_15, ki_16, ki_17, ki_18, ki_19, ki_20, ki_21, ki_22, ki_23, ki_24, ki_25, ki_26, ki_27, ki_28, ki_29, ki_30, ki_31, ki_32, ki_33, ki_34, ki_35, ki_36, ki_37, ki_38, ki_39, ki_40, ki_41, ki_42, ki_43, ki_44, ki_45, ki_46, ki_47, ki_48, ki_49, ki_50, ki_51, ki_52, ki_53, ki_54, ki_55, ki_56, ki_57, ki_58, ki_59, ki_60, ki_61, ki_62, ki_63, ks_m2000, ks_m1006, ks_m1005, ks_m1004, ks_m1003, ks_m1002, ks_m1000, ks_200, ks_201, ks_300, ks_720, ks_9000, ks_10000, ks_250, ks_255, ks_256, ks_320, ks_660, ks_999, ks_1000, ks_9999, ks_12345, ne_2, ne_10, t_0, t_40, t_41, t_42, t_43, t_44, t_45, t_46, t_47, r_0_0, r_0_1, r_0_2, r_0_4, r_0_5, r_0_6, r_0_7, r_40_0, r_40_5, r_44_0, r_44_1, t_1, t_14, t_27, t_2, t_15, t_28, t_64, Nat.reduceEqDiff, ne_eq, not_false_eq_true, false_implies, true_implies, implies_true, Nat.reduceAdd, Nat.reduceLeDiff, Nat.reduceLT, Nat.reduceMul, or_true, true_or, if_true, if_false, not_true_eq_false, and_self, bF, Nat.reduceBEq, Bool.false_and, Bool.and_false, Bool.or_self, Bool.or_false, Bool.false_or, Bool.false_eq_true, Int.reduceAdd, Bool.and_self, Bool.true_and, Bool.and_true, beq_self_eq_true, not_not_, i10_, i01_, List.length_nil, List.length_cons, true_and, and_true, false_and, and_false, kl_i, kl_a, kl_n, kl_l, tl_s, tl_n, rv_S, pd_0, pd_e, pd_r, pd_i, pd_l, g2, b1, bB, lt, gT_t, gT_b, lpF (show i < n by omega) (show n < 2147483648 by omega), vp250 (show i < 250 by omega), nI_clamp (show i < 2 ^ 31 by omega), nI_1]
      refine ⟨fun q => ?_, fun q => ?_⟩
      · rw [if_neg q] at hs
        have eT : nextB B n e = (i, (if sortI (B i) = 0 ∨ sortI (B i) = 1 then runB B (sortI (B i)) r (i + 1) else i + 1), sortI (B i)) := by
          unfold nextB
          rw [← hs]
          unfold tokB
          rw [if_neg (by omega), show n - (i + 1) = r by omega]
        rw [eT] at hK
        generalize hk : sortI (B i) = k at *
        have d2 : gI (pI (pI (pI h1 40 3 (nI i)) 40 4 k) 40 3 (nI (i + 1))) 40 2 = nI i := by rw [gT_t, if_neg (by omega), gT_t, if_neg (by omega), gT_t, if_neg (by omega)]; exact g2
        have d3 : gI (pI (pI (pI h1 40 3 (nI i)) 40 4 k) 40 3 (nI (i + 1))) 40 3 = nI (i + 1) := by rw [gT_t, if_pos rfl]
        have d4 : gI (pI (pI (pI h1 40 3 (nI i)) 40 4 k) 40 3 (nI (i + 1))) 40 4 = k := by rw [gT_t, if_neg (by omega), gT_t, if_pos rfl]
        have df : frT h (pI (pI (pI h1 40 3 (nI i)) 40 4 k) 40 3 (nI (i + 1))) := frT_t (frT_t (frT_t hf (by omega)) (by omega)) (by omega)
        refine ⟨fun q2 => ?_, fun q2 => ⟨fun q3 => ?_, fun q3 => ?_⟩⟩
        · rw [if_pos (Or.inl q2)] at hK
          exact grow k i _ hK r (i + 1) _ (by omega) rfl d2 d3 d4 df
        · rw [if_neg (fun z => z.elim q2 q3)] at hK
          have hK' := hK _ ⟨d2, d3, d4⟩ df
          generalize pI (pI (pI h1 40 3 (nI i)) 40 4 k) 40 3 (nI (i + 1)) = h3 at *
          refine hJ 118 _ _ _ _ ?_
          simp only [z_X4_nextToken_118, u_X4_nextToken_0, u_X4_nextToken_8, u_X4_nextToken_46, u_X4_nextToken_71, u_X4_nextToken_112, u_X4_nextToken_116, u_X4_nextToken_117, u_X4_nextToken_118, u_X4_nextToken_165, j_X4_nextToken_8, j_X4_nextToken_46, j_X4_nextToken_71, j_X4_nextToken_112, j_X4_nextToken_116, j_X4_nextToken_117, j_X4_nextToken_118, j_X4_nextToken_165, ev_aload_n0, ev_getfI, ev_putfI, ev_nop, ev_ic_ge, ev_getfR, ev_iaload, ev_bipush, ev_ic_ne, ev_dup_int, ev_dup_ref, ev_iconst, ev_iadd, ev_goto, ev_ic_lt, ev_vret, ev_callS1, ev_if_eq, ev_istore_n1, ev_iload_n1, ↓e_X4_sortOf, capO_z, kb_6, kb_11, kb_13, kb_15, kb_17, kb_18, kb_19, kb_23, kb_24, kb_25, kb_26, kb_29, kb_31, kb_35, kb_37, kb_41, kb_43, kb_44, kb_61, kb_75, kb_104, kb_7, kb_8, kb_9, kb_10, kb_12, kb_16, kb_20, kb_21, kb_30, kb_32, kb_40, kb_48, kb_50, kb_57, kb_59, kb_60, kb_63, kb_70, kb_78, kb_81, kb_82, kb_84, kb_97, kb_99, kb_100, kb_101, kb_119, kb_120, kb_122, ki_m1, ki_0, ki_1, ki_2, ki_3, ki_4, ki_5, ki_6, ki_7, ki_8, ki_9, ki_10, ki_11, ki_12, ki_13, ki_14, ki_15, ki_16, ki_17, ki_18, ki_19, ki_20, ki_21, ki_22, ki_23, ki_24, ki_25, ki_26, ki_27, ki_28, ki_29, ki_30, ki_31, ki_32, ki_33, ki_34, ki_35, ki_36, ki_37, ki_38, ki_39, ki_40, ki_41, ki_42, ki_43, ki_44, ki_45, ki_46, ki_47, ki_48, ki_49, ki_50, ki_51, ki_52, ki_53, ki_54, ki_55, ki_56, ki_57, ki_58, ki_59, ki_60, ki_61, ki_62, ki_63, ks_m2000, ks_m1006, ks_m1005, ks_m1004, ks_m1003, ks_m1002, ks_m1000, ks_200, ks_201, ks_300, ks_720, ks_9000, ks_10000, ks_250, ks_255, ks_256, ks_320, ks_660, ks_999, ks_1000, ks_9999, ks_12345, ne_2, ne_10, t_0, t_40, t_41, t_42, t_43, t_44, t_45, t_46, t_47, r_0_0, r_0_1, r_0_2, r_0_4, r_0_5, r_0_6, r_0_7, r_40_0, r_40_5, r_44_0, r_44_1, t_1, t_14, t_27, t_2, t_15, t_28, t_64, Nat.reduceEqDiff, ne_eq, not_false_eq_true, false_implies, true_implies, implies_true, Nat.reduceAdd, Nat.reduceLeDiff, Nat.reduceLT, Nat.reduceMul, or_true, true_or, if_true, if_false, not_true_eq_false, and_self, bF, Nat.reduceBEq, Bool.false_and, Bool.and_false, Bool.or_self, Bool.or_false, Bool.false_or, Bool.false_eq_true, Int.reduceAdd, Bool.and_self, Bool.true_and, Bool.and_true, beq_self_eq_true, not_not_, i10_, i01_, List.length_nil, List.length_cons, true_and, and_true, false_and, and_false, kl_i, kl_a, kl_n, kl_l, tl_s, tl_n, rv_S, pd_0, pd_e, pd_r, pd_i, pd_l, zero_z]
          exact hK'
        · rw [if_pos (Or.inr q3)] at hK
          exact grow k i _ hK r (i + 1) _ (by omega) rfl d2 d3 d4 df
      · rw [if_pos q] at hs
        exact ih (i + 1) _ (by omega) hs (by rw [gT_t, if_pos rfl]) (frT_t hf (by omega))
  exact key (n - e) e _ (by omega) rfl (by rw [gI_pI, if_pos ⟨rfl, rfl⟩]) (frT_t (frT_rf h) (by omega))
