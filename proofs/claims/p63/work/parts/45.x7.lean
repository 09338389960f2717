variable {nn : Nat}
/-! ===== copies, the tape's ends, the image ===== -/
abbrev reachP (z i n : Int32) : Prop := ¬ i < 0 ∧ ¬ n < 0 ∧ ¬ z - n < i
theorem reach_of {z : Nat} {i n : Int32} (hz : z ≤ 40) (hq : reachP (nI z) i n) : ∃ a k : Nat, i = nI a ∧ n = nI k ∧ a + k ≤ z := by
  obtain ⟨h1, h2, h3⟩ := hq
  have e0 : (0 : Int32).toInt = 0 := by decide
  have i0 : 0 ≤ i.toInt := by have := Int32.not_lt.mp h1; rw [Int32.le_iff_toInt_le, e0] at this; exact this
  have n0_ : 0 ≤ n.toInt := by have := Int32.not_lt.mp h2; rw [Int32.le_iff_toInt_le, e0] at this; exact this
  have iu := Int32.toInt_lt i
  have nu := Int32.toInt_lt n
  have h4 := Int32.not_lt.mp h3
  have ez : (nI z).toInt = z := nI_toInt (by omega)
  rw [Int32.le_iff_toInt_le, Int32.toInt_sub, ez, Int.bmod_eq_of_le (by omega) (by omega)] at h4
  refine ⟨i.toInt.toNat, n.toInt.toNat, ?_, ?_, by omega⟩
  · rw [← Int32.toInt_inj, nI_toInt (by omega)]; omega
  · rw [← Int32.toInt_inj, nI_toInt (by omega)]; omega
def copyE (G : GV) (p q i j n : Nat) : GV := uSh G (vH G) (vZ G) (onV (vV G) q (va_cpy (vV G p) (vV G q) i j n))
def g_copy (G : GV) (p q i j n : Int32) : Int32 × GV := if inI p 7 ∧ inI q 7 then (if 10 ≤ vH G (ix p) ∨ 10 ≤ vH G (ix q) then noG G (-1003) else if vH G (ix p) = -1 ∨ vH G (ix q) = -1 then noG G (-1004) else if ¬ vH G (ix p) = vH G (ix q) then noG G (-1003) else if reachP (vZ G (ix p)) i n ∧ reachP (vZ G (ix q)) j n then (n, copyE G (ix p) (ix q) (ix i) (ix j) (ix n)) else noG G (-1002)) else noG G (-1002)
theorem gJ_rowJ2 (h : AH) (c : Nat) (f : Nat → Int64) (c' k : Nat) : gJ (rowJ h c f) c' k = if c' = c then f k else gJ h c' k := by
  unfold gJ rowJ
  by_cases e : c' = c <;> simp [e]
theorem frX_rJ {h h' : AH} {c : Nat} {f : Nat → Int64} (hc : c < 64) (hf : frX h h') : frX h (rowJ h' c f) := ⟨hf.1, fun c' k' hc' => by
  rw [gJ_rowJ2, if_neg (by omega)]; exact hf.2 c' k' hc'⟩
theorem gI_rowJ (h : AH) (c : Nat) (f : Nat → Int64) (c' k : Nat) : gI (rowJ h c f) c' k = gI h c' k := rfl
theorem nI_nl0 {a : Nat} (ha : a < 2147483648) : (nI a < 0) = False := eq_false (Int32.not_lt.mpr (nI_le (a := 0) (by omega) ha))
theorem inI_4n {v : Int32} (hv : inI v 4) : ¬ v = -1 ∧ ¬ 10 ≤ v := ⟨fun z => by rw [z] at hv; exact absurd hv.1 (by decide), fun z => absurd (Int32.le_trans z hv.2) (by decide)⟩
def P_X4_add : Sp0T := fun as h K => match as with
  | [.ref c, .int l] => c = 40 ∧ ∃ m : Nat, m < 250 ∧ gI h 40 1 = nI m ∧ K none (pI (pI h 41 m l) 40 1 (nI (m + 1)))
  | _ => False
def S_X4_add : SpT := lift P_X4_add
def L_X4_add_30 : List Item := (30, .return_, [], nS) :: []
def L_X4_add_0 : List Item := (0, .aload_n 0, [], nS) :: (1, .getfield 18, [4, 1, 0], nS) :: (4, .sipush 250, [], nS) :: (7, .if_icmp .ge 23, [30], nS) :: (10, .aload_n 0, [], nS) :: (11, .getfield 9, [4, 0, 1], nS) :: (14, .aload_n 0, [], nS) :: (15, .getfield 18, [4, 1, 0], nS) :: (18, .iload_n 1, [], nS) :: (19, .iastore, [], nS) :: (20, .aload_n 0, [], nS) :: (21, .dup, [], nS) :: (22, .getfield 18, [4, 1, 0], nS) :: (25, .iconst 1, [], nS) :: (26, .iadd, [], nS) :: (27, .putfield 18, [4, 1, 0], nS) :: L_X4_add_30
def L_X4_add : List Item := L_X4_add_0
theorem ok_X4_add : okB cX4_add L_X4_add = true := by decide +kernel
theorem lk_X4_add (l : Launch) : LKs l RX4 1 false L_X4_add := ⟨trivial, ⟨_, _, _, rfl, ⟨(RX4, TX4, 6), rfl, by decide, gT_of (List.mem_of_getElem? (i := 137) (by decide +kernel)) rfl⟩, rfl⟩, trivial, trivial, trivial, ⟨_, _, _, rfl, ⟨(RX4, TX4, 6), rfl, by decide, gT_of (List.mem_of_getElem? (i := 136) (by decide +kernel)) rfl⟩, rfl⟩, trivial, ⟨_, _, _, rfl, ⟨(RX4, TX4, 6), rfl, by decide, gT_of (List.mem_of_getElem? (i := 137) (by decide +kernel)) rfl⟩, rfl⟩, trivial, trivial, trivial, trivial, ⟨_, _, _, rfl, ⟨(RX4, TX4, 6), rfl, by decide, gT_of (List.mem_of_getElem? (i := 137) (by decide +kernel)) rfl⟩, rfl⟩, trivial, trivial, ⟨_, _, _, rfl, ⟨(RX4, TX4, 6), rfl, by decide, gT_of (List.mem_of_getElem? (i := 137) (by decide +kernel)) rfl⟩, rfl, fun q => absurd rfl q⟩, trivial, trivial⟩
theorem b_X4_add_0 : atL L_X4_add 0 = L_X4_add_0 := rfl
theorem b_X4_add_30 : atL L_X4_add 30 = L_X4_add_30 := rfl
theorem a_X4_add_30 : afw L_X4_add [] 30 = L_X4_add_30 := rfl
theorem yv_X4_add : YV yX4_add cX4_add 2 none 1 4 := ⟨⟨gT_of (List.mem_of_getElem? (i := 296) (by decide +kernel)) rfl, gT_of (List.mem_of_getElem? (i := 29) (by decide +kernel)) rfl, ⟨by decide, by decide⟩, by decide +kernel, by decide⟩, gT_of (List.mem_of_getElem? (i := 294) (by decide +kernel)) rfl, gT_of (List.mem_of_getElem? (i := 295) (by decide +kernel)) rfl, rfl⟩
theorem u_X4_add_0 : L_X4_add_0 = (0, .aload_n 0, [], nS) :: (1, .getfield 18, [4, 1, 0], nS) :: (4, .sipush 250, [], nS) :: (7, .if_icmp .ge 23, [30], nS) :: (10, .aload_n 0, [], nS) :: (11, .getfield 9, [4, 0, 1], nS) :: (14, .aload_n 0, [], nS) :: (15, .getfield 18, [4, 1, 0], nS) :: (18, .iload_n 1, [], nS) :: (19, .iastore, [], nS) :: (20, .aload_n 0, [], nS) :: (21, .dup, [], nS) :: (22, .getfield 18, [4, 1, 0], nS) :: (25, .iconst 1, [], nS) :: (26, .iadd, [], nS) :: (27, .putfield 18, [4, 1, 0], nS) :: L_X4_add_30 := nr rfl
theorem u_X4_add_30 : L_X4_add_30 = (30, .return_, [], nS) :: [] := nr rfl
theorem z_X4_add_0 : atL L_X4_add 0 = L_X4_add_0 := nr rfl
theorem z_X4_add_30 : atL L_X4_add 30 = L_X4_add_30 := nr rfl
theorem j_X4_add_30 {G : List Item → SpS → List Value → List Value → AH → Prop} {J : Nat → SpS → List Value → List Value → AH → Prop} {S : SpS} {lv st : List Value} {h : AH} : jmp G J (afw L_X4_add [] 30) 30 S lv st h = G L_X4_add_30 S lv st h := nr rfl
theorem e_X4_add {c : Addr} {l : Int32} {h : AH} {K2 : Option Value → SpS → AH → Prop} : S_X4_add (SHn nn) [.ref c, .int l] h K2 = (fun (K : Option Value → AH → Prop) => c = 40 ∧ ∃ m : Nat, m < 250 ∧ gI h 40 1 = nI m ∧ K none (pI (pI h 41 m l) 40 1 (nI (m + 1)))) (fun v h' => K2 v (SHn nn) h') := (lift_e P_X4_add [.ref c, .int l] h K2).trans (nr rfl)
set_option maxRecDepth 100000 in
set_option maxHeartbeats 4000000 in
theorem c_X4_add (l : Launch) : Ct l yX4_add cX4_add 2 none 1 0 0 S_X4_add := by
  refine Ct0_mk L_X4_add [] (by decide +kernel) (by decide) ok_X4_add (lk_X4_add l) ?_
  intro nn as h K hP
  match as, hP with
  | [.ref c, .int l], ⟨hc, m, hm, hg, hK⟩ =>
  refine ⟨by simp [slotsN, Value.category], fun J hJ => ?_⟩
  subst hc
  have e1 : gI (pI h 41 m l) 40 1 = nI m := by rw [gI_pI, if_neg (by omega), hg]
  refine hJ 0 _ _ _ _ ?_
  simp only [z_X4_add_0, u_X4_add_0, u_X4_add_30, j_X4_add_30, ev_aload_n0, ev_getfI, ev_sipush, ev_ic_ge, ev_getfR, ev_iload_n1, ev_iastore, ev_dup_int, ev_dup_ref, ev_iconst, ev_iadd, ev_putfI, ev_vret, capO_z, kb_6, kb_11, kb_13, kb_15, kb_17, kb_18, kb_19, kb_23, kb_24, kb_25, kb_26, kb_29, kb_31, kb_35, kb_37, kb_41, kb_43, kb_44, kb_61, kb_75, kb_104, kb_7, kb_8, kb_9, kb_10, kb_12, kb_16, kb_20, kb_21, kb_30, kb_32, kb_40, kb_48, kb_50, kb_57, kb_59, kb_60, kb_63, kb_70, kb_78, kb_81, kb_82, kb_84, kb_97, kb_99, kb_100, kb_101, kb_119, kb_120, kb_122, ki_m1, ki_0, ki_1, ki_2, ki_3, ki_4, ki_5, ki_6, ki_7, ki_8, ki_9, ki_10, ki_11, ki_12, ki_13, ki_14, ki_15, ki_16, ki_17, ki_18, ki_19, ki_20, ki_21, ki_22, ki_23, ki_24, ki_25, ki_26, ki_27, ki_28, ki_29, ki_30, ki_31, ki_32, ki_33, ki_34, ki_35, ki_36, ki_37, ki_38, ki_39, ki_40, ki_41, ki_42, ki_43, ki_44, ki_45, ki_46, ki_47, ki_48, ki_49, ki_50, ki_51, ki_52, ki_53, ki_54, ki_55, ki_56, ki_57, ki_58, ki_59, ki_60, ki_61, ki_62, ki_63, ks_m2000, ks_m1006, ks_m1005, ks_m1004, ks_m1003, ks_m1002, ks_m1000, ks_200, ks_201, ks_300, ks_720, ks_9000, ks_10000, ks_250, ks_255, ks_256, ks_320, ks_660, ks_999, ks_1000, ks_9999, ks_12345, ne_2, ne_10, t_0, t_40, t_41, t_42, t_43, t_44, t_45, t_46, t_47, r_0_0, r_0_1, r_0_2, r_0_4, r_0_5, r_0_6, r_0_7, r_40_0, r_40_5, r_44_0, r_44_1, t_1, t_14, t_27, t_2, t_15, t_28, t_64, Nat.reduceEqDiff, ne_eq, not_false_eq_true, false_implies, true_implies, implies_true, Nat.reduceAdd, Nat.reduceLeDiff, Nat.reduceLT, Nat.reduceMul, or_true, true_or, if_true, if_false, not_true_eq_false, and_self, bF, Nat.reduceBEq, Bool.false_and, Bool.and_false, Bool.or_self, Bool.or_false, Bool.false_or, Bool.false_eq_true, Int.reduceAdd, Bool.and_self, Bool.true_and, Bool.and_true, beq_self_eq_true, not_not_, i10_, i01_, List.length_nil, List.length_cons, true_and, and_true, false_and, and_false, kl_i, kl_a, kl_n, kl_l, tl_s, tl_n, rv_S, pd_0, pd_e, pd_r, pd_i, pd_l, hg, show ((250 : Int32) ≤ nI m) = False from lpF (n := 250) hm (by omega), vpN hm (show 250 < 2147483648 by omega), nI_clamp (show m < 2 ^ 31 by omega), e1, nI_1]
  exact hK
def g_feed (G : GV) (l : Int32) : Int32 × GV := if inI l 255 then (if 250 ≤ vS G then noG G (-1006) else (vS G + 1, uT G (vS G + 1) (on1 (vB G) (ix (vS G)) l))) else noG G (-1002)
def P_X5_feed : Sp0T := fun as h K => match as with
  | [.ref x, .int l] => x = 0 ∧ XP h (fun G => g_feed G l) K
  | _ => False
def S_X5_feed : SpT := lift P_X5_feed
def L_X5_feed_39 : List Item := (39, .aload_n 0, [], nS) :: (40, .getfield 25, [5, 4, 1], nS) :: (43, .iload_n 1, [], nS) :: (44, .invokevirtual 148, [1, 4, 0, 0], S_X4_add) :: (47, .aload_n 0, [], nS) :: (48, .getfield 25, [5, 4, 1], nS) :: (51, .getfield 147, [4, 1, 0], nS) :: (54, .ireturn, [], nS) :: []
def L_X5_feed_18 : List Item := (18, .aload_n 0, [], nS) :: (19, .getfield 25, [5, 4, 1], nS) :: (22, .getfield 147, [4, 1, 0], nS) :: (25, .sipush 250, [], nS) :: (28, .if_icmp .lt 11, [39], nS) :: (31, .aload_n 0, [], nS) :: (32, .sipush (-1006), [], nS) :: (35, .invokevirtual 55, [1, 5, 0, 0], S_X5_refuse) :: (38, .ireturn, [], nS) :: L_X5_feed_39
def L_X5_feed_0 : List Item := (0, .iload_n 1, [], nS) :: (1, .sipush 255, [], nS) :: (4, .invokestatic 51, [0, 2, 0, 0], S_X5_isWithin) :: (7, .ifCond .ne 11, [18], nS) :: (10, .aload_n 0, [], nS) :: (11, .sipush (-1002), [], nS) :: (14, .invokevirtual 55, [1, 5, 0, 0], S_X5_refuse) :: (17, .ireturn, [], nS) :: L_X5_feed_18
def L_X5_feed : List Item := L_X5_feed_0
theorem ok_X5_feed : okB cX5_feed L_X5_feed = true := by decide +kernel
theorem lk_X5_feed (l : Launch) : LKs l RX5 3 false L_X5_feed := ⟨trivial, trivial, Or.inl ⟨_, _, _, _, _, _, _, _, rfl, c_X5_isWithin l, yv_X5_isWithin, by decide, gT_of (List.mem_of_getElem? (i := 223) (by decide +kernel)) rfl⟩, trivial, trivial, trivial, ⟨_, _, _, _, _, _, _, _, _, rfl, c_X5_refuse l, Or.inl ⟨by decide, yv_X5_refuse⟩, by decide, gT_of (List.mem_of_getElem? (i := 226) (by decide +kernel)) rfl⟩, trivial, trivial, ⟨_, _, _, rfl, ⟨(RX5, TX5, 8), rfl, by decide, gT_of (List.mem_of_getElem? (i := 195) (by decide +kernel)) rfl⟩, rfl⟩, ⟨_, _, _, rfl, ⟨(RX4, TX4, 6), rfl, by decide, gT_of (List.mem_of_getElem? (i := 138) (by decide +kernel)) rfl⟩, rfl⟩, trivial, trivial, trivial, trivial, ⟨_, _, _, _, _, _, _, _, _, rfl, c_X5_refuse l, Or.inl ⟨by decide, yv_X5_refuse⟩, by decide, gT_of (List.mem_of_getElem? (i := 226) (by decide +kernel)) rfl⟩, trivial, trivial, ⟨_, _, _, rfl, ⟨(RX5, TX5, 8), rfl, by decide, gT_of (List.mem_of_getElem? (i := 195) (by decide +kernel)) rfl⟩, rfl⟩, trivial, ⟨_, _, _, _, _, _, _, _, _, rfl, c_X4_add l, Or.inl ⟨by decide, yv_X4_add⟩, by decide, gT_of (List.mem_of_getElem? (i := 293) (by decide +kernel)) rfl⟩, trivial, ⟨_, _, _, rfl, ⟨(RX5, TX5, 8), rfl, by decide, gT_of (List.mem_of_getElem? (i := 195) (by decide +kernel)) rfl⟩, rfl⟩, ⟨_, _, _, rfl, ⟨(RX4, TX4, 6), rfl, by decide, gT_of (List.mem_of_getElem? (i := 138) (by decide +kernel)) rfl⟩, rfl⟩, trivial, trivial⟩
theorem b_X5_feed_0 : atL L_X5_feed 0 = L_X5_feed_0 := rfl
theorem b_X5_feed_18 : atL L_X5_feed 18 = L_X5_feed_18 := rfl
theorem b_X5_feed_39 : atL L_X5_feed 39 = L_X5_feed_39 := rfl
theorem a_X5_feed_18 : afw L_X5_feed [] 18 = L_X5_feed_18 := rfl
theorem a_X5_feed_39 : afw L_X5_feed [] 39 = L_X5_feed_39 := rfl
theorem yv_X5_feed : YV yX5_feed cX5_feed 2 (some .int) 1 5 := ⟨⟨gT_of (List.mem_of_getElem? (i := 292) (by decide +kernel)) rfl, gT_of (List.mem_of_getElem? (i := 26) (by decide +kernel)) rfl, ⟨by decide, by decide⟩, by decide +kernel, by decide⟩, gT_of (List.mem_of_getElem? (i := 290) (by decide +kernel)) rfl, gT_of (List.mem_of_getElem? (i := 291) (by decide +kernel)) rfl, rfl⟩
theorem u_X5_feed_0 : L_X5_feed_0 = (0, .iload_n 1, [], nS) :: (1, .sipush 255, [], nS) :: (4, .invokestatic 51, [0, 2, 0, 0], S_X5_isWithin) :: (7, .ifCond .ne 11, [18], nS) :: (10, .aload_n 0, [], nS) :: (11, .sipush (-1002), [], nS) :: (14, .invokevirtual 55, [1, 5, 0, 0], S_X5_refuse) :: (17, .ireturn, [], nS) :: L_X5_feed_18 := nr rfl
theorem u_X5_feed_18 : L_X5_feed_18 = (18, .aload_n 0, [], nS) :: (19, .getfield 25, [5, 4, 1], nS) :: (22, .getfield 147, [4, 1, 0], nS) :: (25, .sipush 250, [], nS) :: (28, .if_icmp .lt 11, [39], nS) :: (31, .aload_n 0, [], nS) :: (32, .sipush (-1006), [], nS) :: (35, .invokevirtual 55, [1, 5, 0, 0], S_X5_refuse) :: (38, .ireturn, [], nS) :: L_X5_feed_39 := nr rfl
theorem u_X5_feed_39 : L_X5_feed_39 = (39, .aload_n 0, [], nS) :: (40, .getfield 25, [5, 4, 1], nS) :: (43, .iload_n 1, [], nS) :: (44, .invokevirtual 148, [1, 4, 0, 0], S_X4_add) :: (47, .aload_n 0, [], nS) :: (48, .getfield 25, [5, 4, 1], nS) :: (51, .getfield 147, [4, 1, 0], nS) :: (54, .ireturn, [], nS) :: [] := nr rfl
theorem z_X5_feed_0 : atL L_X5_feed 0 = L_X5_feed_0 := nr rfl
theorem z_X5_feed_18 : atL L_X5_feed 18 = L_X5_feed_18 := nr rfl
theorem z_X5_feed_39 : atL L_X5_feed 39 = L_X5_feed_39 := nr rfl
theorem j_X5_feed_18 {G : List Item → SpS → List Value → List Value → AH → Prop} {J : Nat → SpS → List Value → List Value → AH → Prop} {S : SpS} {lv st : List Value} {h : AH} : jmp G J (afw L_X5_feed [] 18) 18 S lv st h = G L_X5_feed_18 S lv st h := nr rfl
theorem j_X5_feed_39 {G : List Item → SpS → List Value → List Value → AH → Prop} {J : Nat → SpS → List Value → List Value → AH → Prop} {S : SpS} {lv st : List Value} {h : AH} : jmp G J (afw L_X5_feed [] 39) 39 S lv st h = G L_X5_feed_39 S lv st h := nr rfl
theorem e_X5_feed {x : Addr} {l : Int32} {h : AH} {K2 : Option Value → SpS → AH → Prop} : S_X5_feed (SHn nn) [.ref x, .int l] h K2 = (fun (K : Option Value → AH → Prop) => x = 0 ∧ XP h (fun G => g_feed G l) K) (fun v h' => K2 v (SHn nn) h') := (lift_e P_X5_feed [.ref x, .int l] h K2).trans (nr rfl)
set_option maxRecDepth 100000 in
set_option maxHeartbeats 4000000 in
theorem c_X5_feed (l : Launch) : Ct l yX5_feed cX5_feed 2 (some .int) 3 0 0 S_X5_feed := by
  refine Ct0_mk L_X5_feed [] (by decide +kernel) (by decide) ok_X5_feed (lk_X5_feed l) ?_
  intro nn as h K hP
  match as, hP with
  | [.ref x, .int l], ⟨hx, G, hG, hI, hK⟩ =>
  refine ⟨by simp [slotsN, Value.category], fun J hJ => ?_⟩
  subst hx
  dsimp only at hK
  have hE : est h 1 = vE G := hG.1
  have ho := okG_ok hI
  have ho2 := okG_t hI
  have hn : cnt (vE G) ≤ 10 := okG_n hI
  have c4 : gI h 1 4 = nI (cnt (vE G)) := by rw [← hE]; exact est_c (hE ▸ ho)
  have hS := hG.2.2.1.1
  obtain ⟨m, hm, em⟩ := okG_s hI
  rw [em] at hS
  unfold g_feed at hK
  by_cases hh : inI l 255
  · simp only [if_pos hh, em] at hK
    by_cases hm2 : m < 250
    · have hl : ¬ (250 : Int32) ≤ nI m := of_eq_false (lpF (n := 250) hm2 (by omega))
      simp only [if_neg hl] at hK
      rw [ix_m (j := m) (by omega), nI_1] at hK
      have e2 : gI (pI (pI h 41 m l) 40 1 (nI (m + 1))) 40 1 = nI (m + 1) := by rw [gI_pI, if_pos ⟨rfl, rfl⟩]
      refine hJ 0 _ _ _ _ ?_
      simp only [z_X5_feed_0, u_X5_feed_0, u_X5_feed_18, u_X5_feed_39, j_X5_feed_18, j_X5_feed_39, ev_iload_n1, ev_sipush, ev_callS2, ev_if_ne, ev_aload_n0, ev_callV1, ev_iret, ro_i, ro_z, ev_getfR, ev_getfI, ev_ic_lt, ↓e_X4_add, ↓e_X5_isWithin, ↓e_X5_refuse, capO_z, kb_6, kb_11, kb_13, kb_15, kb_17, kb_18, kb_19, kb_23, kb_24, kb_25, kb_26, kb_29, kb_31, kb_35, kb_37, kb_41, kb_43, kb_44, kb_61, kb_75, kb_104, kb_7, kb_8, kb_9, kb_10, kb_12, kb_16, kb_20, kb_21, kb_30, kb_32, kb_40, kb_48, kb_50, kb_57, kb_59, kb_60, kb_63, kb_70, kb_78, kb_81, kb_82, kb_84, kb_97, kb_99, kb_100, kb_101, kb_119, kb_120, kb_122, ki_m1, ki_0, ki_1, ki_2, ki_3, ki_4, ki_5, ki_6, ki_7, ki_8, ki_9, ki_10, ki_11, ki_12, ki_13, ki_14, ki_15, ki_16, ki_17, ki_18, ki_19, ki_20, ki_21, ki_22, ki_23, ki_24, ki_25, ki_26, ki_27, ki_28, ki_29, ki_30, ki_31, ki_32, ki_33, ki_34, ki_35, ki_36, ki_37, ki_38, ki_39, ki_40, ki_41, ki_42, ki_43, ki_44, ki_45, ki_46, ki_47, ki_48, ki_49, ki_50, ki_51, ki_52, ki_53, ki_54, ki_55, ki_56, ki_57, ki_58, ki_59, ki_60, ki_61, ki_62, ki_63, ks_m2000, ks_m1006, ks_m1005, ks_m1004, ks_m1003, ks_m1002, ks_m1000, ks_200, ks_201, ks_300, ks_720, ks_9000, ks_10000, ks_250, ks_255, ks_256, ks_320, ks_660, ks_999, ks_1000, ks_9999, ks_12345, ne_2, ne_10, t_0, t_40, t_41, t_42, t_43, t_44, t_45, t_46, t_47, r_0_0, r_0_1, r_0_2, r_0_4, r_0_5, r_0_6, r_0_7, r_40_0, r_40_5, r_44_0, r_44_1, t_1, t_14, t_27, t_2, t_15, t_28, t_64, Nat.reduceEqDiff, ne_eq, not_false_eq_true, false_implies, true_implies, implies_true, Nat.reduceAdd, Nat.reduceLeDiff, Nat.reduceLT, Nat.reduceMul, or_true, true_or, if_true, if_false, not_true_eq_false, and_self, bF, Nat.reduceBEq, Bool.false_and, Bool.and_false, Bool.or_self, Bool.or_false, Bool.false_or, Bool.false_eq_true, Int.reduceAdd, Bool.and_self, Bool.true_and, Bool.and_true, beq_self_eq_true, not_not_, i10_, i01_, List.length_nil, List.length_cons, true_and, and_true, false_and, and_false, kl_i, kl_a, kl_n, kl_l, tl_s, tl_n, rv_S, pd_0, pd_e, pd_r, pd_i, pd_l, b2i_t hh, hS, eq_true (Int32.not_le.mp hl), e2]
      refine ⟨m, hm2, rfl, ?_⟩
      rw [e2]
      refine hK _ (simX_tp (h' := pI (pI h 41 m l) 40 1 (nI (m + 1))) hI hG (fun c k hc => ?_) (fun c k => rfl) e2 (fun i hi => ?_)) (frX_I (by omega) (frX_p (by omega)))
      · rw [gI_pI, gI_pI, if_neg (by omega), if_neg (by omega)]
      · rw [nI_clamp (by omega)] at hi
        rw [gI_pI, if_neg (by omega), gI_pI]
        by_cases y : i = m
        · rw [if_pos ⟨rfl, y⟩, y, on1_y]
        · rw [if_neg (fun z => y z.2), on1_n y]
          exact hG.2.2.1.2 i (by rw [em, nI_clamp (by omega)]; omega)
    · have hl : (250 : Int32) ≤ nI m := nI_le (a := 250) (by omega) (by omega)
      simp only [if_pos hl, noG] at hK
      refine hJ 0 _ _ _ _ ?_
      simp only [z_X5_feed_0, u_X5_feed_0, u_X5_feed_18, u_X5_feed_39, j_X5_feed_18, j_X5_feed_39, ev_iload_n1, ev_sipush, ev_callS2, ev_if_ne, ev_aload_n0, ev_callV1, ev_iret, ro_i, ro_z, ev_getfR, ev_getfI, ev_ic_lt, ↓e_X4_add, ↓e_X5_isWithin, ↓e_X5_refuse, capO_z, kb_6, kb_11, kb_13, kb_15, kb_17, kb_18, kb_19, kb_23, kb_24, kb_25, kb_26, kb_29, kb_31, kb_35, kb_37, kb_41, kb_43, kb_44, kb_61, kb_75, kb_104, kb_7, kb_8, kb_9, kb_10, kb_12, kb_16, kb_20, kb_21, kb_30, kb_32, kb_40, kb_48, kb_50, kb_57, kb_59, kb_60, kb_63, kb_70, kb_78, kb_81, kb_82, kb_84, kb_97, kb_99, kb_100, kb_101, kb_119, kb_120, kb_122, ki_m1, ki_0, ki_1, ki_2, ki_3, ki_4, ki_5, ki_6, ki_7, ki_8, ki_9, ki_10, ki_11, ki_12, ki_13, ki_14, ki_15, ki_16, ki_17, ki_18, ki_19, ki_20, ki_21, ki_22, ki_23, ki_24, ki_25, ki_26, ki_27, ki_28, ki_29, ki_30, ki_31, ki_32, ki_33, ki_34, ki_35, ki_36, ki_37, ki_38, ki_39, ki_40, ki_41, ki_42, ki_43, ki_44, ki_45, ki_46, ki_47, ki_48, ki_49, ki_50, ki_51, ki_52, ki_53, ki_54, ki_55, ki_56, ki_57, ki_58, ki_59, ki_60, ki_61, ki_62, ki_63, ks_m2000, ks_m1006, ks_m1005, ks_m1004, ks_m1003, ks_m1002, ks_m1000, ks_200, ks_201, ks_300, ks_720, ks_9000, ks_10000, ks_250, ks_255, ks_256, ks_320, ks_660, ks_999, ks_1000, ks_9999, ks_12345, ne_2, ne_10, t_0, t_40, t_41, t_42, t_43, t_44, t_45, t_46, t_47, r_0_0, r_0_1, r_0_2, r_0_4, r_0_5, r_0_6, r_0_7, r_40_0, r_40_5, r_44_0, r_44_1, t_1, t_14, t_27, t_2, t_15, t_28, t_64, Nat.reduceEqDiff, ne_eq, not_false_eq_true, false_implies, true_implies, implies_true, Nat.reduceAdd, Nat.reduceLeDiff, Nat.reduceLT, Nat.reduceMul, or_true, true_or, if_true, if_false, not_true_eq_false, and_self, bF, Nat.reduceBEq, Bool.false_and, Bool.and_false, Bool.or_self, Bool.or_false, Bool.false_or, Bool.false_eq_true, Int.reduceAdd, Bool.and_self, Bool.true_and, Bool.and_true, beq_self_eq_true, not_not_, i10_, i01_, List.length_nil, List.length_cons, true_and, and_true, false_and, and_false, kl_i, kl_a, kl_n, kl_l, tl_s, tl_n, rv_S, pd_0, pd_e, pd_r, pd_i, pd_l, b2i_t hh, hS, eq_false (Int32.not_lt.mpr hl), ic_6]
      exact hK _ (simX_ref hI hG kc6) (frX_ref h _)
  · simp only [if_neg hh, noG] at hK
    refine hJ 0 _ _ _ _ ?_
    simp only [z_X5_feed_0, u_X5_feed_0, u_X5_feed_18, u_X5_feed_39, j_X5_feed_18, j_X5_feed_39, ev_iload_n1, ev_sipush, ev_callS2, ev_if_ne, ev_aload_n0, ev_callV1, ev_iret, ro_i, ro_z, ev_getfR, ev_getfI, ev_ic_lt, ↓e_X4_add, ↓e_X5_isWithin, ↓e_X5_refuse, capO_z, kb_6, kb_11, kb_13, kb_15, kb_17, kb_18, kb_19, kb_23, kb_24, kb_25, kb_26, kb_29, kb_31, kb_35, kb_37, kb_41, kb_43, kb_44, kb_61, kb_75, kb_104, kb_7, kb_8, kb_9, kb_10, kb_12, kb_16, kb_20, kb_21, kb_30, kb_32, kb_40, kb_48, kb_50, kb_57, kb_59, kb_60, kb_63, kb_70, kb_78, kb_81, kb_82, kb_84, kb_97, kb_99, kb_100, kb_101, kb_119, kb_120, kb_122, ki_m1, ki_0, ki_1, ki_2, ki_3, ki_4, ki_5, ki_6, ki_7, ki_8, ki_9, ki_10, ki_11, ki_12, ki_13, ki_14, ki_15, ki_16, ki_17, ki_18, ki_19, ki_20, ki_21, ki_22, ki_23, ki_24, ki_25, ki_26, ki_27, ki_28, ki_29, ki_30, ki_31, ki_32, ki_33, ki_34, ki_35, ki_36, ki_37, ki_38, ki_39, ki_40, ki_41, ki_42, ki_43, ki_44, ki_45, ki_46, ki_47, ki_48, ki_49, ki_50, ki_51, ki_52, ki_53, ki_54, ki_55, ki_56, ki_57, ki_58, ki_59, ki_60, ki_61, ki_62, ki_63, ks_m2000, ks_m1006, ks_m1005, ks_m1004, ks_m1003, ks_m1002, ks_m1000, ks_200, ks_201, ks_300, ks_720, ks_9000, ks_10000, ks_250, ks_255, ks_256, ks_320, ks_660, ks_999, ks_1000, ks_9999, ks_12345, ne_2, ne_10, t_0, t_40, t_41, t_42, t_43, t_44, t_45, t_46, t_47, r_0_0, r_0_1, r_0_2, r_0_4, r_0_5, r_0_6, r_0_7, r_40_0, r_40_5, r_44_0, r_44_1, t_1, t_14, t_27, t_2, t_15, t_28, t_64, Nat.reduceEqDiff, ne_eq, not_false_eq_true, false_implies, true_implies, implies_true, Nat.reduceAdd, Nat.reduceLeDiff, Nat.reduceLT, Nat.reduceMul, or_true, true_or, if_true, if_false, not_true_eq_false, and_self, bF, Nat.reduceBEq, Bool.false_and, Bool.and_false, Bool.or_self, Bool.or_false, Bool.false_or, Bool.false_eq_true, Int.reduceAdd, Bool.and_self, Bool.true_and, Bool.and_true, beq_self_eq_true, not_not_, i10_, i01_, List.length_nil, List.length_cons, true_and, and_true, false_and, and_false, kl_i, kl_a, kl_n, kl_l, tl_s, tl_n, rv_S, pd_0, pd_e, pd_r, pd_i, pd_l, b2i_f hh, ic_2]
    exact hK _ (simX_ref hI hG kc2) (frX_ref h _)
def g_wipe (G : GV) : Int32 × GV := (vS G, uT G 0 (vB G))
def P_X5_wipe : Sp0T := fun as h K => match as with
  | [.ref x] => x = 0 ∧ XP h (fun G => g_wipe G) K
  | _ => False
def S_X5_wipe : SpT := lift P_X5_wipe
def L_X5_wipe_0 : List Item := (0, .aload_n 0, [], nS) :: (1, .getfield 25, [5, 4, 1], nS) :: (4, .getfield 147, [4, 1, 0], nS) :: (7, .istore_n 1, [], nS) :: (8, .aload_n 0, [], nS) :: (9, .getfield 25, [5, 4, 1], nS) :: (12, .iconst 0, [], nS) :: (13, .putfield 147, [4, 1, 0], nS) :: (16, .iload_n 1, [], nS) :: (17, .ireturn, [], nS) :: []
def L_X5_wipe : List Item := L_X5_wipe_0
theorem ok_X5_wipe : okB cX5_wipe L_X5_wipe = true := by decide +kernel
theorem lk_X5_wipe (l : Launch) : LKs l RX5 1 false L_X5_wipe := ⟨trivial, ⟨_, _, _, rfl, ⟨(RX5, TX5, 8), rfl, by decide, gT_of (List.mem_of_getElem? (i := 195) (by decide +kernel)) rfl⟩, rfl⟩, ⟨_, _, _, rfl, ⟨(RX4, TX4, 6), rfl, by decide, gT_of (List.mem_of_getElem? (i := 138) (by decide +kernel)) rfl⟩, rfl⟩, trivial, trivial, ⟨_, _, _, rfl, ⟨(RX5, TX5, 8), rfl, by decide, gT_of (List.mem_of_getElem? (i := 195) (by decide +kernel)) rfl⟩, rfl⟩, trivial, ⟨_, _, _, rfl, ⟨(RX4, TX4, 6), rfl, by decide, gT_of (List.mem_of_getElem? (i := 138) (by decide +kernel)) rfl⟩, rfl, fun q => absurd rfl q⟩, trivial, trivial, trivial⟩
theorem b_X5_wipe_0 : atL L_X5_wipe 0 = L_X5_wipe_0 := rfl
theorem yv_X5_wipe : YV yX5_wipe cX5_wipe 2 (some .int) 0 5 := ⟨⟨gT_of (List.mem_of_getElem? (i := 300) (by decide +kernel)) rfl, gT_of (List.mem_of_getElem? (i := 26) (by decide +kernel)) rfl, ⟨by decide, by decide⟩, by decide +kernel, by decide⟩, gT_of (List.mem_of_getElem? (i := 298) (by decide +kernel)) rfl, gT_of (List.mem_of_getElem? (i := 299) (by decide +kernel)) rfl, rfl⟩
theorem u_X5_wipe_0 : L_X5_wipe_0 = (0, .aload_n 0, [], nS) :: (1, .getfield 25, [5, 4, 1], nS) :: (4, .getfield 147, [4, 1, 0], nS) :: (7, .istore_n 1, [], nS) :: (8, .aload_n 0, [], nS) :: (9, .getfield 25, [5, 4, 1], nS) :: (12, .iconst 0, [], nS) :: (13, .putfield 147, [4, 1, 0], nS) :: (16, .iload_n 1, [], nS) :: (17, .ireturn, [], nS) :: [] := nr rfl
theorem z_X5_wipe_0 : atL L_X5_wipe 0 = L_X5_wipe_0 := nr rfl
theorem e_X5_wipe {x : Addr} {h : AH} {K2 : Option Value → SpS → AH → Prop} : S_X5_wipe (SHn nn) [.ref x] h K2 = (fun (K : Option Value → AH → Prop) => x = 0 ∧ XP h (fun G => g_wipe G) K) (fun v h' => K2 v (SHn nn) h') := (lift_e P_X5_wipe [.ref x] h K2).trans (nr rfl)
set_option maxRecDepth 100000 in
set_option maxHeartbeats 4000000 in
theorem c_X5_wipe (l : Launch) : Ct l yX5_wipe cX5_wipe 2 (some .int) 1 0 0 S_X5_wipe := by
  refine Ct0_mk L_X5_wipe [] (by decide +kernel) (by decide) ok_X5_wipe (lk_X5_wipe l) ?_
  intro nn as h K hP
  match as, hP with
  | [.ref x], ⟨hx, G, hG, hI, hK⟩ =>
  refine ⟨by simp [slotsN, Value.category], fun J hJ => ?_⟩
  subst hx
  dsimp only at hK
  have hE : est h 1 = vE G := hG.1
  have ho := okG_ok hI
  have ho2 := okG_t hI
  have hn : cnt (vE G) ≤ 10 := okG_n hI
  have c4 : gI h 1 4 = nI (cnt (vE G)) := by rw [← hE]; exact est_c (hE ▸ ho)
  have hS := hG.2.2.1.1
  unfold g_wipe at hK
  refine hJ 0 _ _ _ _ ?_
  simp only [z_X5_wipe_0, u_X5_wipe_0, ev_aload_n0, ev_getfR, ev_getfI, ev_istore_n1, ev_iconst, ev_putfI, ev_iload_n1, ev_iret, ro_i, ro_z, capO_z, kb_6, kb_11, kb_13, kb_15, kb_17, kb_18, kb_19, kb_23, kb_24, kb_25, kb_26, kb_29, kb_31, kb_35, kb_37, kb_41, kb_43, kb_44, kb_61, kb_75, kb_104, kb_7, kb_8, kb_9, kb_10, kb_12, kb_16, kb_20, kb_21, kb_30, kb_32, kb_40, kb_48, kb_50, kb_57, kb_59, kb_60, kb_63, kb_70, kb_78, kb_81, kb_82, kb_84, kb_97, kb_99, kb_100, kb_101, kb_119, kb_120, kb_122, ki_m1, ki_0, ki_1, ki_2, ki_3, ki_4, ki_5, ki_6, ki_7, ki_8, ki_9, ki_10, ki_11, ki_12, ki_13, ki_14, ki_15, ki_16, ki_17, ki_18, ki_19, ki_20, ki_21, ki_22, ki_23, ki_24, ki_25, ki_26, ki_27, ki_28, ki_29, ki_30, ki_31, ki_32, ki_33, ki_34, ki_35, ki_36, ki_37, ki_38, ki_39, ki_40, ki_41, ki_42, ki_43, ki_44, ki_45, ki_46, ki_47, ki_48, ki_49, ki_50, ki_51, ki_52, ki_53, ki_54, ki_55, ki_56, ki_57, ki_58, ki_59, ki_60, ki_61, ki_62, ki_63, ks_m2000, ks_m1006, ks_m1005, ks_m1004, ks_m1003, ks_m1002, ks_m1000, ks_200, ks_201, ks_300, ks_720, ks_9000, ks_10000, ks_250, ks_255, ks_256, ks_320, ks_660, ks_999, ks_1000, ks_9999, ks_12345, ne_2, ne_10, t_0, t_40, t_41, t_42, t_43, t_44, t_45, t_46, t_47, r_0_0, r_0_1, r_0_2, r_0_4, r_0_5, r_0_6, r_0_7, r_40_0, r_40_5, r_44_0, r_44_1, t_1, t_14, t_27, t_2, t_15, t_28, t_64, Nat.reduceEqDiff, ne_eq, not_false_eq_true, false_implies, true_implies, implies_true, Nat.reduceAdd, Nat.reduceLeDiff, Nat.reduceLT, Nat.reduceMul, or_true, true_or, if_true, if_false, not_true_eq_false, and_self, bF, Nat.reduceBEq, Bool.false_and, Bool.and_false, Bool.or_self, Bool.or_false, Bool.false_or, Bool.false_eq_true, Int.reduceAdd, Bool.and_self, Bool.true_and, Bool.and_true, beq_self_eq_true, not_not_, i10_, i01_, List.length_nil, List.length_cons, true_and, and_true, false_and, and_false, kl_i, kl_a, kl_n, kl_l, tl_s, tl_n, rv_S, pd_0, pd_e, pd_r, pd_i, pd_l, hS]
  refine hK _ (simX_tp (h' := pI h 40 1 0) hI hG (fun c k hc => ?_) (fun c k => rfl) ?_ (fun i hi => ?_)) (frX_p (by omega))
  · rw [gI_pI, if_neg (by omega)]
  · rw [gI_pI, if_pos ⟨rfl, rfl⟩]
  · exact absurd hi (by rw [show ((0 : Int32).toNatClampNeg) = 0 by decide]; omega)
def g_image (G : GV) : Int32 × GV := (1, uK G 1 (vE G))
def P_X5_image : Sp0T := fun as h K => match as with
  | [.ref x] => x = 0 ∧ XP h (fun G => g_image G) K
  | _ => False
def S_X5_image : SpT := lift P_X5_image
def L_X5_image_0 : List Item := (0, .aload_n 0, [], nS) :: (1, .getfield 19, [5, 2, 1], nS) :: (4, .aload_n 0, [], nS) :: (5, .getfield 10, [5, 0, 1], nS) :: (8, .invokevirtual 151, [1, 0, 0, 0], S_X0_copyFrom) :: (11, .aload_n 0, [], nS) :: (12, .iconst 1, [], nS) :: (13, .putfield 297, [5, 3, 0], nS) :: (16, .iconst 1, [], nS) :: (17, .ireturn, [], nS) :: []
def L_X5_image : List Item := L_X5_image_0
theorem ok_X5_image : okB cX5_image L_X5_image = true := by decide +kernel
theorem lk_X5_image (l : Launch) : LKs l RX5 3 false L_X5_image := ⟨trivial, ⟨_, _, _, rfl, ⟨(RX5, TX5, 8), rfl, by decide, gT_of (List.mem_of_getElem? (i := 193) (by decide +kernel)) rfl⟩, rfl⟩, trivial, ⟨_, _, _, rfl, ⟨(RX5, TX5, 8), rfl, by decide, gT_of (List.mem_of_getElem? (i := 191) (by decide +kernel)) rfl⟩, rfl⟩, ⟨_, _, _, _, _, _, _, _, _, rfl, c_X0_copyFrom l, Or.inl ⟨by decide, yv_X0_copyFrom⟩, by decide, gT_of (List.mem_of_getElem? (i := 305) (by decide +kernel)) rfl⟩, trivial, trivial, ⟨_, _, _, rfl, ⟨(RX5, TX5, 8), rfl, by decide, gT_of (List.mem_of_getElem? (i := 194) (by decide +kernel)) rfl⟩, rfl, fun q => absurd rfl q⟩, trivial, trivial, trivial⟩
theorem b_X5_image_0 : atL L_X5_image 0 = L_X5_image_0 := rfl
theorem yv_X5_image : YV yX5_image cX5_image 1 (some .int) 0 5 := ⟨⟨gT_of (List.mem_of_getElem? (i := 709) (by decide +kernel)) rfl, gT_of (List.mem_of_getElem? (i := 26) (by decide +kernel)) rfl, ⟨by decide, by decide⟩, by decide +kernel, by decide⟩, gT_of (List.mem_of_getElem? (i := 707) (by decide +kernel)) rfl, gT_of (List.mem_of_getElem? (i := 708) (by decide +kernel)) rfl, rfl⟩
theorem u_X5_image_0 : L_X5_image_0 = (0, .aload_n 0, [], nS) :: (1, .getfield 19, [5, 2, 1], nS) :: (4, .aload_n 0, [], nS) :: (5, .getfield 10, [5, 0, 1], nS) :: (8, .invokevirtual 151, [1, 0, 0, 0], S_X0_copyFrom) :: (11, .aload_n 0, [], nS) :: (12, .iconst 1, [], nS) :: (13, .putfield 297, [5, 3, 0], nS) :: (16, .iconst 1, [], nS) :: (17, .ireturn, [], nS) :: [] := nr rfl
theorem z_X5_image_0 : atL L_X5_image 0 = L_X5_image_0 := nr rfl
theorem e_X5_image {x : Addr} {h : AH} {K2 : Option Value → SpS → AH → Prop} : S_X5_image (SHn nn) [.ref x] h K2 = (fun (K : Option Value → AH → Prop) => x = 0 ∧ XP h (fun G => g_image G) K) (fun v h' => K2 v (SHn nn) h') := (lift_e P_X5_image [.ref x] h K2).trans (nr rfl)
set_option maxRecDepth 100000 in
set_option maxHeartbeats 4000000 in
theorem c_X5_image (l : Launch) : Ct l yX5_image cX5_image 1 (some .int) 3 0 0 S_X5_image := by
  refine Ct0_mk L_X5_image [] (by decide +kernel) (by decide) ok_X5_image (lk_X5_image l) ?_
  intro nn as h K hP
  match as, hP with
  | [.ref x], ⟨hx, G, hG, hI, hK⟩ =>
  refine ⟨by simp [slotsN, Value.category], fun J hJ => ?_⟩
  subst hx
  dsimp only at hK
  have hE : est h 1 = vE G := hG.1
  have ho := okG_ok hI
  have ho2 := okG_t hI
  have hn : cnt (vE G) ≤ 10 := okG_n hI
  have c4 : gI h 1 4 = nI (cnt (vE G)) := by rw [← hE]; exact est_c (hE ▸ ho)
  unfold g_image at hK
  refine hJ 0 _ _ _ _ ?_
  simp only [z_X5_image_0, u_X5_image_0, ev_aload_n0, ev_getfR, ev_callV1, ev_iconst, ev_putfI, ev_iret, ro_i, ro_z, ↓e_X0_copyFrom, capO_z, kb_6, kb_11, kb_13, kb_15, kb_17, kb_18, kb_19, kb_23, kb_24, kb_25, kb_26, kb_29, kb_31, kb_35, kb_37, kb_41, kb_43, kb_44, kb_61, kb_75, kb_104, kb_7, kb_8, kb_9, kb_10, kb_12, kb_16, kb_20, kb_21, kb_30, kb_32, kb_40, kb_48, kb_50, kb_57, kb_59, kb_60, kb_63, kb_70, kb_78, kb_81, kb_82, kb_84, kb_97, kb_99, kb_100, kb_101, kb_119, kb_120, kb_122, ki_m1, ki_0, ki_1, ki_2, ki_3, ki_4, ki_5, ki_6, ki_7, ki_8, ki_9, ki_10, ki_11, ki_12, ki_13, ki_14, ki_15, ki_16, ki_17, ki_18, ki_19, ki_20, ki_21, ki_22, ki_23, ki_24, ki_25, ki_26, ki_27, ki_28, ki_29, ki_30, ki_31, ki_32, ki_33, ki_34, ki_35, ki_36, ki_37, ki_38, ki_39, ki_40, ki_41, ki_42, ki_43, ki_44, ki_45, ki_46, ki_47, ki_48, ki_49, ki_50, ki_51, ki_52, ki_53, ki_54, ki_55, ki_56, ki_57, ki_58, ki_59, ki_60, ki_61, ki_62, ki_63, ks_m2000, ks_m1006, ks_m1005, ks_m1004, ks_m1003, ks_m1002, ks_m1000, ks_200, ks_201, ks_300, ks_720, ks_9000, ks_10000, ks_250, ks_255, ks_256, ks_320, ks_660, ks_999, ks_1000, ks_9999, ks_12345, ne_2, ne_10, t_0, t_40, t_41, t_42, t_43, t_44, t_45, t_46, t_47, r_0_0, r_0_1, r_0_2, r_0_4, r_0_5, r_0_6, r_0_7, r_40_0, r_40_5, r_44_0, r_44_1, t_1, t_14, t_27, t_2, t_15, t_28, t_64, Nat.reduceEqDiff, ne_eq, not_false_eq_true, false_implies, true_implies, implies_true, Nat.reduceAdd, Nat.reduceLeDiff, Nat.reduceLT, Nat.reduceMul, or_true, true_or, if_true, if_false, not_true_eq_false, and_self, bF, Nat.reduceBEq, Bool.false_and, Bool.and_false, Bool.or_self, Bool.or_false, Bool.false_or, Bool.false_eq_true, Int.reduceAdd, Bool.and_self, Bool.true_and, Bool.and_true, beq_self_eq_true, not_not_, i10_, i01_, List.length_nil, List.length_cons, true_and, and_true, false_and, and_false, kl_i, kl_a, kl_n, kl_l, tl_s, tl_n, rv_S, pd_0, pd_e, pd_r, pd_i, pd_l, isE1t, isE27t, hE]
  refine ⟨ho, fun h1 p1 p2 => ?_⟩
  have f1 : ∀ c k, c < 27 ∨ 40 ≤ c → gI h1 c k = gI h c k := fun c k q => p2.1 c k (by omega)
  have f2 : ∀ c k, c ≠ 0 → gI (pI h1 0 3 1) c k = gI h1 c k := fun c k q => by rw [gI_pI, if_neg (fun z => q z.1)]
  refine hK _ ⟨?_, ⟨?_, fun _ => ?_⟩, ⟨?_, fun i hi => ?_⟩, fun s hs => ⟨?_, fun z => ⟨?_, fun j hj => ?_⟩⟩, fun k hk2 => ?_⟩ (frX_I (by omega) (frX_E isE27 p2))
  · show est _ 1 = vE G
    rw [est_pO (by omega) (by rw [est_fr p2 (by omega) (by rw [hE]; exact hn), hE]; exact hn), est_fr p2 (by omega) (by rw [hE]; exact hn), hE]
  · rw [gI_pI, if_pos ⟨rfl, rfl⟩]; rfl
  · show est _ 27 = vE G
    rw [est_pO (by omega) (by rw [p1]; exact hn), p1]
  · rw [f2 _ _ (by omega), f1 _ _ (by omega)]; exact hG.2.2.1.1
  · rw [f2 _ _ (by omega), f1 _ _ (by omega)]; exact hG.2.2.1.2 i hi
  · rw [f2 _ _ (by omega), f1 _ _ (by omega)]; exact (hG.2.2.2.1 s hs).1
  · rw [f2 _ _ (by omega), f1 _ _ (by omega)]; exact ((hG.2.2.2.1 s hs).2 z).1
  · show gJ h1 _ _ = _
    rw [p2.2]; exact ((hG.2.2.2.1 s hs).2 z).2 j hj
  · rw [f2 _ _ (by omega), f1 _ _ (by omega)]; exact hG.2.2.2.2 k hk2
def backH (E : ES) (H : Nat → Int32) (u : Nat) : Int32 := if 10 ≤ H u ∧ ¬ inI (H u - 10) (nI (cnt E) - 1) then -1 else H u
def g_back (G : GV) : Int32 × GV := if vK G = 1 then (1, uSh (uE G (vKE G)) (backH (vKE G) (vH G)) (vZ G) (vV G)) else noG G (-1005)
theorem simX_back {h h' : AH} {G : GV} {E : ES} {H : Nat → Int32} (hI : okG G) (hG : simX h G) (hE : est h' 1 = E) (h1 : ∀ c k, ¬ ((1 ≤ c ∧ c < 14) ∨ (48 ≤ c ∧ c < 64)) → gI h' c k = gI h c k) (h2 : ∀ c k, gJ h' c k = gJ h c k) (hs : ∀ u, u < 8 → gI h' (48 + 2 * u) 0 = H u ∧ (inI (H u) 4 → H u = vH G u ∧ gI h' (48 + 2 * u) 1 = gI h (48 + 2 * u) 1)) : simX h' (uSh (uE G E) H (vZ G) (vV G)) := by
  obtain ⟨he, hk, ht, hh, hg⟩ := hG
  refine ⟨hE, ⟨?_, fun z => ?_⟩, ⟨?_, fun i hi => ?_⟩, fun s hs2 => ⟨(hs s hs2).1, fun z => ?_⟩, fun k hk2 => ?_⟩
  · rw [h1 _ _ (by omega)]; exact hk.1
  · have e := hk.2 z
    show est h' 27 = vKE G
    rw [← e]
    exact est_same (fun k => h1 _ _ (by omega)) (fun k => h1 _ _ (by omega)) (fun i k hi => h1 _ _ (by omega)) (by rw [e]; exact (okG_k hI z).2)
  · rw [h1 _ _ (by omega)]; exact ht.1
  · rw [h1 _ _ (by omega)]; exact ht.2 i hi
  · have z' : inI (H s) 4 := z
    obtain ⟨a1, a2⟩ := (hs s hs2).2 z'
    have a3 := (hh s hs2).2 (a1 ▸ z')
    exact ⟨by rw [a2]; exact a3.1, fun j hj => by rw [h2]; exact a3.2 j hj⟩
  · rw [h1 _ _ (by omega)]; exact hg k hk2
def P_X5_back : Sp0T := fun as h K => match as with
  | [.ref x] => x = 0 ∧ XP h (fun G => g_back G) K
  | _ => False
def S_X5_back : SpT := lift P_X5_back
def L_X5_back_80 : List Item := (80, .iconst 1, [], nS) :: (81, .ireturn, [], nS) :: []
def L_X5_back_74 : List Item := (74, .iinc 1 1, [], nS) :: (77, .goto (-49), [28], nS) :: L_X5_back_80
def L_X5_back_28 : List Item := (28, .iload_n 1, [], nS) :: (29, .bipush 8, [], nS) :: (31, .if_icmp .ge 49, [80], nS) :: (34, .aload_n 0, [], nS) :: (35, .getfield 31, [5, 5, 1], nS) :: (38, .iload_n 1, [], nS) :: (39, .aaload, [], nS) :: (40, .invokevirtual 75, [0, 3, 0, 0], S_X3_showsHeir) :: (43, .ifCond .eq 31, [74], nS) :: (46, .aload_n 0, [], nS) :: (47, .aload_n 0, [], nS) :: (48, .getfield 31, [5, 5, 1], nS) :: (51, .iload_n 1, [], nS) :: (52, .aaload, [], nS) :: (53, .getfield 82, [3, 0, 0], nS) :: (56, .bipush 10, [], nS) :: (58, .isub, [], nS) :: (59, .invokevirtual 114, [1, 5, 0, 0], S_X5_isHeir) :: (62, .ifCond .ne 12, [74], nS) :: (65, .aload_n 0, [], nS) :: (66, .getfield 31, [5, 5, 1], nS) :: (69, .iload_n 1, [], nS) :: (70, .aaload, [], nS) :: (71, .invokevirtual 104, [0, 3, 0, 0], S_X3_clear) :: L_X5_back_74
def L_X5_back_15 : List Item := (15, .aload_n 0, [], nS) :: (16, .getfield 10, [5, 0, 1], nS) :: (19, .aload_n 0, [], nS) :: (20, .getfield 19, [5, 2, 1], nS) :: (23, .invokevirtual 151, [1, 0, 0, 0], S_X0_copyFrom) :: (26, .iconst 0, [], nS) :: (27, .istore_n 1, [], nS) :: (28, .nop, [], nS) :: L_X5_back_28
def L_X5_back_0 : List Item := (0, .aload_n 0, [], nS) :: (1, .getfield 297, [5, 3, 0], nS) :: (4, .ifCond .ne 11, [15], nS) :: (7, .aload_n 0, [], nS) :: (8, .sipush (-1005), [], nS) :: (11, .invokevirtual 55, [1, 5, 0, 0], S_X5_refuse) :: (14, .ireturn, [], nS) :: L_X5_back_15
def L_X5_back : List Item := L_X5_back_0
theorem ok_X5_back : okB cX5_back L_X5_back = true := by decide +kernel
theorem lk_X5_back (l : Launch) : LKs l RX5 3 false L_X5_back := ⟨trivial, ⟨_, _, _, rfl, ⟨(RX5, TX5, 8), rfl, by decide, gT_of (List.mem_of_getElem? (i := 194) (by decide +kernel)) rfl⟩, rfl⟩, trivial, trivial, trivial, ⟨_, _, _, _, _, _, _, _, _, rfl, c_X5_refuse l, Or.inl ⟨by decide, yv_X5_refuse⟩, by decide, gT_of (List.mem_of_getElem? (i := 226) (by decide +kernel)) rfl⟩, trivial, trivial, ⟨_, _, _, rfl, ⟨(RX5, TX5, 8), rfl, by decide, gT_of (List.mem_of_getElem? (i := 191) (by decide +kernel)) rfl⟩, rfl⟩, trivial, ⟨_, _, _, rfl, ⟨(RX5, TX5, 8), rfl, by decide, gT_of (List.mem_of_getElem? (i := 193) (by decide +kernel)) rfl⟩, rfl⟩, ⟨_, _, _, _, _, _, _, _, _, rfl, c_X0_copyFrom l, Or.inl ⟨by decide, yv_X0_copyFrom⟩, by decide, gT_of (List.mem_of_getElem? (i := 305) (by decide +kernel)) rfl⟩, trivial, trivial, trivial, trivial, trivial, trivial, trivial, ⟨_, _, _, rfl, ⟨(RX5, TX5, 8), rfl, by decide, gT_of (List.mem_of_getElem? (i := 196) (by decide +kernel)) rfl⟩, rfl⟩, trivial, trivial, ⟨_, _, _, _, _, _, _, _, _, rfl, c_X3_showsHeir l, Or.inl ⟨by decide, yv_X3_showsHeir⟩, by decide, gT_of (List.mem_of_getElem? (i := 242) (by decide +kernel)) rfl⟩, trivial, trivial, trivial, ⟨_, _, _, rfl, ⟨(RX5, TX5, 8), rfl, by decide, gT_of (List.mem_of_getElem? (i := 196) (by decide +kernel)) rfl⟩, rfl⟩, trivial, trivial, ⟨_, _, _, rfl, ⟨(RX3, TX3, 3), rfl, by decide, gT_of (List.mem_of_getElem? (i := 178) (by decide +kernel)) rfl⟩, rfl⟩, trivial, trivial, ⟨_, _, _, _, _, _, _, _, _, rfl, c_X5_isHeir l, Or.inl ⟨by decide, yv_X5_isHeir⟩, by decide, gT_of (List.mem_of_getElem? (i := 266) (by decide +kernel)) rfl⟩, trivial, trivial, ⟨_, _, _, rfl, ⟨(RX5, TX5, 8), rfl, by decide, gT_of (List.mem_of_getElem? (i := 196) (by decide +kernel)) rfl⟩, rfl⟩, trivial, trivial, ⟨_, _, _, _, _, _, _, _, _, rfl, c_X3_clear l, Or.inl ⟨by decide, yv_X3_clear⟩, by decide, gT_of (List.mem_of_getElem? (i := 270) (by decide +kernel)) rfl⟩, trivial, trivial, trivial, trivial, trivial⟩
theorem b_X5_back_0 : atL L_X5_back 0 = L_X5_back_0 := rfl
theorem b_X5_back_15 : atL L_X5_back 15 = L_X5_back_15 := rfl
theorem b_X5_back_28 : atL L_X5_back 28 = L_X5_back_28 := rfl
theorem b_X5_back_74 : atL L_X5_back 74 = L_X5_back_74 := rfl
theorem b_X5_back_80 : atL L_X5_back 80 = L_X5_back_80 := rfl
theorem a_X5_back_15 : afw L_X5_back [28] 15 = L_X5_back_15 := rfl
theorem a_X5_back_74 : afw L_X5_back [28] 74 = L_X5_back_74 := rfl
theorem a_X5_back_80 : afw L_X5_back [28] 80 = L_X5_back_80 := rfl
theorem a_X5_back_28 : afw L_X5_back [28] 28 = [] := rfl
theorem yv_X5_back : YV yX5_back cX5_back 2 (some .int) 0 5 := ⟨⟨gT_of (List.mem_of_getElem? (i := 713) (by decide +kernel)) rfl, gT_of (List.mem_of_getElem? (i := 26) (by decide +kernel)) rfl, ⟨by decide, by decide⟩, by decide +kernel, by decide⟩, gT_of (List.mem_of_getElem? (i := 711) (by decide +kernel)) rfl, gT_of (List.mem_of_getElem? (i := 712) (by decide +kernel)) rfl, rfl⟩
theorem u_X5_back_0 : L_X5_back_0 = (0, .aload_n 0, [], nS) :: (1, .getfield 297, [5, 3, 0], nS) :: (4, .ifCond .ne 11, [15], nS) :: (7, .aload_n 0, [], nS) :: (8, .sipush (-1005), [], nS) :: (11, .invokevirtual 55, [1, 5, 0, 0], S_X5_refuse) :: (14, .ireturn, [], nS) :: L_X5_back_15 := nr rfl
theorem u_X5_back_15 : L_X5_back_15 = (15, .aload_n 0, [], nS) :: (16, .getfield 10, [5, 0, 1], nS) :: (19, .aload_n 0, [], nS) :: (20, .getfield 19, [5, 2, 1], nS) :: (23, .invokevirtual 151, [1, 0, 0, 0], S_X0_copyFrom) :: (26, .iconst 0, [], nS) :: (27, .istore_n 1, [], nS) :: (28, .nop, [], nS) :: L_X5_back_28 := nr rfl
theorem u_X5_back_28 : L_X5_back_28 = (28, .iload_n 1, [], nS) :: (29, .bipush 8, [], nS) :: (31, .if_icmp .ge 49, [80], nS) :: (34, .aload_n 0, [], nS) :: (35, .getfield 31, [5, 5, 1], nS) :: (38, .iload_n 1, [], nS) :: (39, .aaload, [], nS) :: (40, .invokevirtual 75, [0, 3, 0, 0], S_X3_showsHeir) :: (43, .ifCond .eq 31, [74], nS) :: (46, .aload_n 0, [], nS) :: (47, .aload_n 0, [], nS) :: (48, .getfield 31, [5, 5, 1], nS) :: (51, .iload_n 1, [], nS) :: (52, .aaload, [], nS) :: (53, .getfield 82, [3, 0, 0], nS) :: (56, .bipush 10, [], nS) :: (58, .isub, [], nS) :: (59, .invokevirtual 114, [1, 5, 0, 0], S_X5_isHeir) :: (62, .ifCond .ne 12, [74], nS) :: (65, .aload_n 0, [], nS) :: (66, .getfield 31, [5, 5, 1], nS) :: (69, .iload_n 1, [], nS) :: (70, .aaload, [], nS) :: (71, .invokevirtual 104, [0, 3, 0, 0], S_X3_clear) :: L_X5_back_74 := nr rfl
theorem u_X5_back_74 : L_X5_back_74 = (74, .iinc 1 1, [], nS) :: (77, .goto (-49), [28], nS) :: L_X5_back_80 := nr rfl
theorem u_X5_back_80 : L_X5_back_80 = (80, .iconst 1, [], nS) :: (81, .ireturn, [], nS) :: [] := nr rfl
theorem z_X5_back_0 : atL L_X5_back 0 = L_X5_back_0 := nr rfl
theorem z_X5_back_15 : atL L_X5_back 15 = L_X5_back_15 := nr rfl
theorem z_X5_back_28 : atL L_X5_back 28 = L_X5_back_28 := nr rfl
theorem z_X5_back_74 : atL L_X5_back 74 = L_X5_back_74 := nr rfl
theorem z_X5_back_80 : atL L_X5_back 80 = L_X5_back_80 := nr rfl
theorem j_X5_back_15 {G : List Item → SpS → List Value → List Value → AH → Prop} {J : Nat → SpS → List Value → List Value → AH → Prop} {S : SpS} {lv st : List Value} {h : AH} : jmp G J (afw L_X5_back [28] 15) 15 S lv st h = G L_X5_back_15 S lv st h := nr rfl
theorem j_X5_back_74 {G : List Item → SpS → List Value → List Value → AH → Prop} {J : Nat → SpS → List Value → List Value → AH → Prop} {S : SpS} {lv st : List Value} {h : AH} : jmp G J (afw L_X5_back [28] 74) 74 S lv st h = G L_X5_back_74 S lv st h := nr rfl
theorem j_X5_back_80 {G : List Item → SpS → List Value → List Value → AH → Prop} {J : Nat → SpS → List Value → List Value → AH → Prop} {S : SpS} {lv st : List Value} {h : AH} : jmp G J (afw L_X5_back [28] 80) 80 S lv st h = G L_X5_back_80 S lv st h := nr rfl
theorem j_X5_back_28 {G : List Item → SpS → List Value → List Value → AH → Prop} {J : Nat → SpS → List Value → List Value → AH → Prop} {S : SpS} {lv st : List Value} {h : AH} : jmp G J (afw L_X5_back [28] 28) 28 S lv st h = J 28 S lv st h := nr rfl
theorem e_X5_back {x : Addr} {h : AH} {K2 : Option Value → SpS → AH → Prop} : S_X5_back (SHn nn) [.ref x] h K2 = (fun (K : Option Value → AH → Prop) => x = 0 ∧ XP h (fun G => g_back G) K) (fun v h' => K2 v (SHn nn) h') := (lift_e P_X5_back [.ref x] h K2).trans (nr rfl)
set_option maxRecDepth 100000 in
set_option maxHeartbeats 4000000 in
theorem c_X5_back (l : Launch) : Ct l yX5_back cX5_back 2 (some .int) 3 0 0 S_X5_back := by
  refine Ct0_mk L_X5_back [28] (by decide +kernel) (by decide) ok_X5_back (lk_X5_back l) ?_
  intro nn as h K hP
  match as, hP with
  | [.ref x], ⟨hx, G, hG, hI, hK⟩ =>
  refine ⟨by simp [slotsN, Value.category], fun J hJ => ?_⟩
  subst hx
  dsimp only at hK
  have hE : est h 1 = vE G := hG.1
  have ho := okG_ok hI
  have ho2 := okG_t hI
  have hn : cnt (vE G) ≤ 10 := okG_n hI
  have c4 : gI h 1 4 = nI (cnt (vE G)) := by rw [← hE]; exact est_c (hE ▸ ho)
  have hk := hG.2.1
  unfold g_back at hK
  by_cases hh : vK G = 1
  · simp only [if_pos hh] at hK
    have hk2 := hk.2 hh
    obtain ⟨oK, nK⟩ := okG_k hI hh
    have e3 : gI h 0 3 = 1 := hk.1.trans hh
    refine hJ 0 _ _ _ _ ?_
    simp only [z_X5_back_0, u_X5_back_0, u_X5_back_15, u_X5_back_28, u_X5_back_74, u_X5_back_80, j_X5_back_15, j_X5_back_28, j_X5_back_74, j_X5_back_80, ev_aload_n0, ev_getfI, ev_if_ne, ev_sipush, ev_callV1, ev_iret, ro_i, ro_z, ev_getfR, ev_iconst, ev_istore_n1, ev_nop, ev_iload_n1, ev_bipush, ev_ic_ge, ev_aaload, ev_callV0, ev_if_eq, ev_isub, ev_iinc1, ev_goto, ↓e_X0_copyFrom, ↓e_X3_clear, ↓e_X3_showsHeir, ↓e_X5_isHeir, ↓e_X5_refuse, capO_z, kb_6, kb_11, kb_13, kb_15, kb_17, kb_18, kb_19, kb_23, kb_24, kb_25, kb_26, kb_29, kb_31, kb_35, kb_37, kb_41, kb_43, kb_44, kb_61, kb_75, kb_104, kb_7, kb_8, kb_9, kb_10, kb_12, kb_16, kb_20, kb_21, kb_30, kb_32, kb_40, kb_48, kb_50, kb_57, kb_59, kb_60, kb_63, kb_70, kb_78, kb_81, kb_82, kb_84, kb_97, kb_99, kb_100, kb_101, kb_119, kb_120, kb_122, ki_m1, ki_0, ki_1, ki_2, ki_3, ki_4, ki_5, ki_6, ki_7, ki_8, ki_9, ki_10, ki_11, ki_12, ki_13, ki_14, ki_15, ki_16, ki_17, ki_18, ki_19, ki_20, ki_21, ki_22, ki_23, ki_24, ki_25, ki_26, ki_27, ki_28, ki_29, ki_30, ki_31, ki_32, ki_33, ki_34, ki_35, ki_36, ki_37, ki_38, ki_39, ki_40, ki_41, ki_42, ki_43, ki_44, ki_45, ki_46, ki_47, ki_48, ki_49, ki_50, ki_51, ki_52, ki_53, ki_54, ki_55, ki_56, ki_57, ki_58, ki_59, ki_60, ki_61, ki_62, ki_63, ks_m2000, ks_m1006, ks_m1005, ks_m1004, ks_m1003, ks_m1002, ks_m1000, ks_200, ks_201, ks_300, ks_720, ks_9000, ks_10000, ks_250, ks_255, ks_256, ks_320, ks_660, ks_999, ks_1000, ks_9999, ks_12345, ne_2, ne_10, t_0, t_40, t_41, t_42, t_43, t_44, t_45, t_46, t_47, r_0_0, r_0_1, r_0_2, r_0_4, r_0_5, r_0_6, r_0_7, r_40_0, r_40_5, r_44_0, r_44_1, t_1, t_14, t_27, t_2, t_15, t_28, t_64, Nat.reduceEqDiff, ne_eq, not_false_eq_true, false_implies, true_implies, implies_true, Nat.reduceAdd, Nat.reduceLeDiff, Nat.reduceLT, Nat.reduceMul, or_true, true_or, if_true, if_false, not_true_eq_false, and_self, bF, Nat.reduceBEq, Bool.false_and, Bool.and_false, Bool.or_self, Bool.or_false, Bool.false_or, Bool.false_eq_true, Int.reduceAdd, Bool.and_self, Bool.true_and, Bool.and_true, beq_self_eq_true, not_not_, i10_, i01_, List.length_nil, List.length_cons, true_and, and_true, false_and, and_false, kl_i, kl_a, kl_n, kl_l, tl_s, tl_n, rv_S, pd_0, pd_e, pd_r, pd_i, pd_l, e3, one_z, isE1t, isE27t, hk2]
    refine ⟨oK, fun h1 p1 p2 => ?_⟩
    refine dn (P := fun a => ∀ h', est h' 1 = vKE G → (∀ c k, ¬ ((1 ≤ c ∧ c < 14) ∨ (48 ≤ c ∧ c < 64)) → gI h' c k = gI h c k) → (∀ c k, gJ h' c k = gJ h c k) → (∀ u, u < 8 → gI h' (48 + 2 * u) 0 = (if u < a then backH (vKE G) (vH G) u else vH G u) ∧ (gI h' (48 + 2 * u) 1 = gI h (48 + 2 * u) 1 ∨ 10 ≤ vH G u)) → J 28 (SHn nn) [.ref 0, .int (nI a)] [] h') 8 ?_ (fun a ha ih h' q1_ q2_ q3_ q4_ => ?_) h1 p1 (fun c k q => p2.1 c k (by omega)) (fun c k => p2.2 c k) (fun u hu => ⟨by rw [if_neg (by omega), p2.1 _ _ (by omega)]; exact (hG.2.2.2.1 u hu).1, Or.inl (p2.1 _ _ (by omega))⟩)
    · intro h' q1_ q2_ q3_ q4_
      refine hJ 28 _ _ _ _ ?_
      simp only [z_X5_back_28, u_X5_back_0, u_X5_back_15, u_X5_back_28, u_X5_back_74, u_X5_back_80, j_X5_back_15, j_X5_back_28, j_X5_back_74, j_X5_back_80, ev_aload_n0, ev_getfI, ev_if_ne, ev_sipush, ev_callV1, ev_iret, ro_i, ro_z, ev_getfR, ev_iconst, ev_istore_n1, ev_nop, ev_iload_n1, ev_bipush, ev_ic_ge, ev_aaload, ev_callV0, ev_if_eq, ev_isub, ev_iinc1, ev_goto, ↓e_X0_copyFrom, ↓e_X3_clear, ↓e_X3_showsHeir, ↓e_X5_isHeir, ↓e_X5_refuse, capO_z, kb_6, kb_11, kb_13, kb_15, kb_17, kb_18, kb_19, kb_23, kb_24, kb_25, kb_26, kb_29, kb_31, kb_35, kb_37, kb_41, kb_43, kb_44, kb_61, kb_75, kb_104, kb_7, kb_8, kb_9, kb_10, kb_12, kb_16, kb_20, kb_21, kb_30, kb_32, kb_40, kb_48, kb_50, kb_57, kb_59, kb_60, kb_63, kb_70, kb_78, kb_81, kb_82, kb_84, kb_97, kb_99, kb_100, kb_101, kb_119, kb_120, kb_122, ki_m1, ki_0, ki_1, ki_2, ki_3, ki_4, ki_5, ki_6, ki_7, ki_8, ki_9, ki_10, ki_11, ki_12, ki_13, ki_14, ki_15, ki_16, ki_17, ki_18, ki_19, ki_20, ki_21, ki_22, ki_23, ki_24, ki_25, ki_26, ki_27, ki_28, ki_29, ki_30, ki_31, ki_32, ki_33, ki_34, ki_35, ki_36, ki_37, ki_38, ki_39, ki_40, ki_41, ki_42, ki_43, ki_44, ki_45, ki_46, ki_47, ki_48, ki_49, ki_50, ki_51, ki_52, ki_53, ki_54, ki_55, ki_56, ki_57, ki_58, ki_59, ki_60, ki_61, ki_62, ki_63, ks_m2000, ks_m1006, ks_m1005, ks_m1004, ks_m1003, ks_m1002, ks_m1000, ks_200, ks_201, ks_300, ks_720, ks_9000, ks_10000, ks_250, ks_255, ks_256, ks_320, ks_660, ks_999, ks_1000, ks_9999, ks_12345, ne_2, ne_10, t_0, t_40, t_41, t_42, t_43, t_44, t_45, t_46, t_47, r_0_0, r_0_1, r_0_2, r_0_4, r_0_5, r_0_6, r_0_7, r_40_0, r_40_5, r_44_0, r_44_1, t_1, t_14, t_27, t_2, t_15, t_28, t_64, Nat.reduceEqDiff, ne_eq, not_false_eq_true, false_implies, true_implies, implies_true, Nat.reduceAdd, Nat.reduceLeDiff, Nat.reduceLT, Nat.reduceMul, or_true, true_or, if_true, if_false, not_true_eq_false, and_self, bF, Nat.reduceBEq, Bool.false_and, Bool.and_false, Bool.or_self, Bool.or_false, Bool.false_or, Bool.false_eq_true, Int.reduceAdd, Bool.and_self, Bool.true_and, Bool.and_true, beq_self_eq_true, not_not_, i10_, i01_, List.length_nil, List.length_cons, true_and, and_true, false_and, and_false, kl_i, kl_a, kl_n, kl_l, tl_s, tl_n, rv_S, pd_0, pd_e, pd_r, pd_i, pd_l, show ((8 : Int32) ≤ nI 8) = True by decide]
      refine hK h' (simX_back hI hG q1_ q2_ q3_ (fun u hu => ?_)) ⟨fun c k hc => q2_ c k (by omega), fun c k _ => q3_ c k⟩
      obtain ⟨a1, a2⟩ := q4_ u hu
      rw [if_pos hu] at a1
      refine ⟨a1, fun z => ?_⟩
      have hb : backH (vKE G) (vH G) u = vH G u := by
        unfold backH at z ⊢
        by_cases y : 10 ≤ vH G u ∧ ¬ inI (vH G u - 10) (nI (cnt (vKE G)) - 1)
        · rw [if_pos y] at z; exact absurd z.1 (by decide)
        · rw [if_neg y]
      refine ⟨hb, a2.resolve_right (fun y => ?_)⟩
      rw [hb] at z
      exact (inI_4n z).2 y
    · have hc1 : gI h' 1 4 = nI (cnt (vKE G)) := by rw [← q1_]; exact est_c (by rw [q1_]; exact oK)
      have ha0 := (q4_ a ha).1
      rw [if_neg (by omega)] at ha0
      have keep : (¬ (10 ≤ vH G a ∧ ¬ inI (vH G a - 10) (nI (cnt (vKE G)) - 1))) → J 28 (SHn nn) [.ref 0, .int (nI (a + 1))] [] h' := fun y => by
        refine ih h' q1_ q2_ q3_ (fun u hu => ⟨?_, (q4_ u hu).2⟩)
        have z := (q4_ u hu).1
        by_cases y2 : u = a
        · subst y2
          rw [if_pos (by omega), ha0]
          unfold backH
          rw [if_neg y]
        · rw [z]
          by_cases y3 : u < a
          · rw [if_pos y3, if_pos (by omega)]
          · rw [if_neg y3, if_neg (by omega)]
      by_cases hA : 10 ≤ vH G a
      · by_cases hB : inI (vH G a - 10) (nI (cnt (vKE G)) - 1)
        · refine hJ 28 _ _ _ _ ?_
          simp only [z_X5_back_28, u_X5_back_0, u_X5_back_15, u_X5_back_28, u_X5_back_74, u_X5_back_80, j_X5_back_15, j_X5_back_28, j_X5_back_74, j_X5_back_80, ev_aload_n0, ev_getfI, ev_if_ne, ev_sipush, ev_callV1, ev_iret, ro_i, ro_z, ev_getfR, ev_iconst, ev_istore_n1, ev_nop, ev_iload_n1, ev_bipush, ev_ic_ge, ev_aaload, ev_callV0, ev_if_eq, ev_isub, ev_iinc1, ev_goto, ↓e_X0_copyFrom, ↓e_X3_clear, ↓e_X3_showsHeir, ↓e_X5_isHeir, ↓e_X5_refuse, capO_z, kb_6, kb_11, kb_13, kb_15, kb_17, kb_18, kb_19, kb_23, kb_24, kb_25, kb_26, kb_29, kb_31, kb_35, kb_37, kb_41, kb_43, kb_44, kb_61, kb_75, kb_104, kb_7, kb_8, kb_9, kb_10, kb_12, kb_16, kb_20, kb_21, kb_30, kb_32, kb_40, kb_48, kb_50, kb_57, kb_59, kb_60, kb_63, kb_70, kb_78, kb_81, kb_82, kb_84, kb_97, kb_99, kb_100, kb_101, kb_119, kb_120, kb_122, ki_m1, ki_0, ki_1, ki_2, ki_3, ki_4, ki_5, ki_6, ki_7, ki_8, ki_9, ki_10, ki_11, ki_12, ki_13, ki_14, ki_15, ki_16, ki_17, ki_18, ki_19, ki_20, ki_21, ki_22, ki_23, ki_24, ki_25, ki_26, ki_27, ki_28, ki_29, ki_30, ki_31, ki_32, ki_33, ki_34, ki_35, ki_36, ki_37, ki_38, ki_39, ki_40, ki_41, ki_42, ki_43, ki_44, ki_45, ki_46, ki_47, ki_48, ki_49, ki_50, ki_51, ki_52, ki_53, ki_54, ki_55, ki_56, ki_57, ki_58, ki_59, ki_60, ki_61, ki_62, ki_63, ks_m2000, ks_m1006, ks_m1005, ks_m1004, ks_m1003, ks_m1002, ks_m1000, ks_200, ks_201, ks_300, ks_720, ks_9000, ks_10000, ks_250, ks_255, ks_256, ks_320, ks_660, ks_999, ks_1000, ks_9999, ks_12345, ne_2, ne_10, t_0, t_40, t_41, t_42, t_43, t_44, t_45, t_46, t_47, r_0_0, r_0_1, r_0_2, r_0_4, r_0_5, r_0_6, r_0_7, r_40_0, r_40_5, r_44_0, r_44_1, t_1, t_14, t_27, t_2, t_15, t_28, t_64, Nat.reduceEqDiff, ne_eq, not_false_eq_true, false_implies, true_implies, implies_true, Nat.reduceAdd, Nat.reduceLeDiff, Nat.reduceLT, Nat.reduceMul, or_true, true_or, if_true, if_false, not_true_eq_false, and_self, bF, Nat.reduceBEq, Bool.false_and, Bool.and_false, Bool.or_self, Bool.or_false, Bool.false_or, Bool.false_eq_true, Int.reduceAdd, Bool.and_self, Bool.true_and, Bool.and_true, beq_self_eq_true, not_not_, i10_, i01_, List.length_nil, List.length_cons, true_and, and_true, false_and, and_false, kl_i, kl_a, kl_n, kl_l, tl_s, tl_n, rv_S, pd_0, pd_e, pd_r, pd_i, pd_l, lp8F ha, vp8 ha, nI_clamp (show a < 2 ^ 31 by omega), rSh ha, tSh ha, ha0, b2i_t hA, hc1, b2i_t hB, nI_1]
          exact keep (fun y => y.2 hB)
        · refine hJ 28 _ _ _ _ ?_
          simp only [z_X5_back_28, u_X5_back_0, u_X5_back_15, u_X5_back_28, u_X5_back_74, u_X5_back_80, j_X5_back_15, j_X5_back_28, j_X5_back_74, j_X5_back_80, ev_aload_n0, ev_getfI, ev_if_ne, ev_sipush, ev_callV1, ev_iret, ro_i, ro_z, ev_getfR, ev_iconst, ev_istore_n1, ev_nop, ev_iload_n1, ev_bipush, ev_ic_ge, ev_aaload, ev_callV0, ev_if_eq, ev_isub, ev_iinc1, ev_goto, ↓e_X0_copyFrom, ↓e_X3_clear, ↓e_X3_showsHeir, ↓e_X5_isHeir, ↓e_X5_refuse, capO_z, kb_6, kb_11, kb_13, kb_15, kb_17, kb_18, kb_19, kb_23, kb_24, kb_25, kb_26, kb_29, kb_31, kb_35, kb_37, kb_41, kb_43, kb_44, kb_61, kb_75, kb_104, kb_7, kb_8, kb_9, kb_10, kb_12, kb_16, kb_20, kb_21, kb_30, kb_32, kb_40, kb_48, kb_50, kb_57, kb_59, kb_60, kb_63, kb_70, kb_78, kb_81, kb_82, kb_84, kb_97, kb_99, kb_100, kb_101, kb_119, kb_120, kb_122, ki_m1, ki_0, ki_1, ki_2, ki_3, ki_4, ki_5, ki_6, ki_7, ki_8, ki_9, ki_10, ki_11, ki_12, ki_13, ki_14, ki_15, ki_16, ki_17, ki_18, ki_19, ki_20, ki_21, ki_22, ki_23, ki_24, ki_25, ki_26, ki_27, ki_28, ki_29, ki_30, ki_31, ki_32, ki_33, ki_34, ki_35, ki_36, ki_37, ki_38, ki_39, ki_40, ki_41, ki_42, ki_43, ki_44, ki_45, ki_46, ki_47, ki_48, ki_49, ki_50, ki_51, ki_52, ki_53, ki_54, ki_55, ki_56, ki_57, ki_58, ki_59, ki_60, ki_61, ki_62, ki_63, ks_m2000, ks_m1006, ks_m1005, ks_m1004, ks_m1003, ks_m1002, ks_m1000, ks_200, ks_201, ks_300, ks_720, ks_9000, ks_10000, ks_250, ks_255, ks_256, ks_320, ks_660, ks_999, ks_1000, ks_9999, ks_12345, ne_2, ne_10, t_0, t_40, t_41, t_42, t_43, t_44, t_45, t_46, t_47, r_0_0, r_0_1, r_0_2, r_0_4, r_0_5, r_0_6, r_0_7, r_40_0, r_40_5, r_44_0, r_44_1, t_1, t_14, t_27, t_2, t_15, t_28, t_64, Nat.reduceEqDiff, ne_eq, not_false_eq_true, false_implies, true_implies, implies_true, Nat.reduceAdd, Nat.reduceLeDiff, Nat.reduceLT, Nat.reduceMul, or_true, true_or, if_true, if_false, not_true_eq_false, and_self, bF, Nat.reduceBEq, Bool.false_and, Bool.and_false, Bool.or_self, Bool.or_false, Bool.false_or, Bool.false_eq_true, Int.reduceAdd, Bool.and_self, Bool.true_and, Bool.and_true, beq_self_eq_true, not_not_, i10_, i01_, List.length_nil, List.length_cons, true_and, and_true, false_and, and_false, kl_i, kl_a, kl_n, kl_l, tl_s, tl_n, rv_S, pd_0, pd_e, pd_r, pd_i, pd_l, lp8F ha, vp8 ha, nI_clamp (show a < 2 ^ 31 by omega), rSh ha, tSh ha, ha0, b2i_t hA, hc1, b2i_f hB, nI_1]
          refine ih _ ?_ (fun c k q => ?_) (fun c k => q3_ c k) (fun u hu => ?_)
          · rw [est_pO (by omega) (by rw [est_pO (by omega) (by rw [q1_]; exact nK), q1_]; exact nK), est_pO (by omega) (by rw [q1_]; exact nK), q1_]
          · rw [gI_pI, gI_pI, if_neg (by omega), if_neg (by omega)]; exact q2_ c k q
          · by_cases y2 : u = a
            · subst y2
              refine ⟨?_, Or.inr hA⟩
              rw [gI_pI, if_neg (by omega), gI_pI, if_pos ⟨rfl, rfl⟩, if_pos (by omega)]
              unfold backH
              rw [if_pos ⟨hA, hB⟩]
            · obtain ⟨a1, a2⟩ := q4_ u hu
              have hne : ∀ k, gI (pI (pI h' (48 + 2 * a) 0 (-1)) (48 + 2 * a) 1 0) (48 + 2 * u) k = gI h' (48 + 2 * u) k := fun k => by rw [gI_pI, gI_pI, if_neg (by omega), if_neg (by omega)]
              rw [hne, hne]
              refine ⟨?_, a2⟩
              rw [a1]
              by_cases y3 : u < a
              · rw [if_pos y3, if_pos (by omega)]
              · rw [if_neg y3, if_neg (by omega)]
      · refine hJ 28 _ _ _ _ ?_
        simp only [z_X5_back_28, u_X5_back_0, u_X5_back_15, u_X5_back_28, u_X5_back_74, u_X5_back_80, j_X5_back_15, j_X5_back_28, j_X5_back_74, j_X5_back_80, ev_aload_n0, ev_getfI, ev_if_ne, ev_sipush, ev_callV1, ev_iret, ro_i, ro_z, ev_getfR, ev_iconst, ev_istore_n1, ev_nop, ev_iload_n1, ev_bipush, ev_ic_ge, ev_aaload, ev_callV0, ev_if_eq, ev_isub, ev_iinc1, ev_goto, ↓e_X0_copyFrom, ↓e_X3_clear, ↓e_X3_showsHeir, ↓e_X5_isHeir, ↓e_X5_refuse, capO_z, kb_6, kb_11, kb_13, kb_15, kb_17, kb_18, kb_19, kb_23, kb_24, kb_25, kb_26, kb_29, kb_31, kb_35, kb_37, kb_41, kb_43, kb_44, kb_61, kb_75, kb_104, kb_7, kb_8, kb_9, kb_10, kb_12, kb_16, kb_20, kb_21, kb_30, kb_32, kb_40, kb_48, kb_50, kb_57, kb_59, kb_60, kb_63, kb_70, kb_78, kb_81, kb_82, kb_84, kb_97, kb_99, kb_100, kb_101, kb_119, kb_120, kb_122, ki_m1, ki_0, ki_1, ki_2, ki_3, ki_4, ki_5, ki_6, ki_7, ki_8, ki_9, ki_10, ki_11, ki_12, ki_13, ki_14, ki_15, ki_16, ki_17, ki_18, ki_19, ki_20, ki_21, ki_22, ki_23, ki_24, ki_25, ki_26, ki_27, ki_28, ki_29, ki_30, ki_31, ki_32, ki_33, ki_34, ki_35, ki_36, ki_37, ki_38, ki_39, ki_40, ki_41, ki_42, ki_43, ki_44, ki_45, ki_46, ki_47, ki_48, ki_49, ki_50, ki_51, ki_52, ki_53, ki_54, ki_55, ki_56, ki_57, ki_58, ki_59, ki_60, ki_61, ki_62, ki_63, ks_m2000, ks_m1006, ks_m1005, ks_m1004, ks_m1003, ks_m1002, ks_m1000, ks_200, ks_201, ks_300, ks_720, ks_9000, ks_10000, ks_250, ks_255, ks_256, ks_320, ks_660, ks_999, ks_1000, ks_9999, ks_12345, ne_2, ne_10, t_0, t_40, t_41, t_42, t_43, t_44, t_45, t_46, t_47, r_0_0, r_0_1, r_0_2, r_0_4, r_0_5, r_0_6, r_0_7, r_40_0, r_40_5, r_44_0, r_44_1, t_1, t_14, t_27, t_2, t_15, t_28, t_64, Nat.reduceEqDiff, ne_eq, not_false_eq_true, false_implies, true_implies, implies_true, Nat.reduceAdd, Nat.reduceLeDiff, Nat.reduceLT, Nat.reduceMul, or_true, true_or, if_true, if_false, not_true_eq_false, and_self, bF, Nat.reduceBEq, Bool.false_and, Bool.and_false, Bool.or_self, Bool.or_false, Bool.false_or, Bool.false_eq_true, Int.reduceAdd, Bool.and_self, Bool.true_and, Bool.and_true, beq_self_eq_true, not_not_, i10_, i01_, List.length_nil, List.length_cons, true_and, and_true, false_and, and_false, kl_i, kl_a, kl_n, kl_l, tl_s, tl_n, rv_S, pd_0, pd_e, pd_r, pd_i, pd_l, lp8F ha, vp8 ha, nI_clamp (show a < 2 ^ 31 by omega), rSh ha, tSh ha, ha0, b2i_f hA, nI_1]
        exact keep (fun y => hA y.1)
  · simp only [if_neg hh, noG] at hK
    have e3 : gI h 0 3 = 0 := by rw [hk.1]; exact (okG_0 hI).resolve_right hh
    refine hJ 0 _ _ _ _ ?_
    simp only [z_X5_back_0, u_X5_back_0, u_X5_back_15, u_X5_back_28, u_X5_back_74, u_X5_back_80, j_X5_back_15, j_X5_back_28, j_X5_back_74, j_X5_back_80, ev_aload_n0, ev_getfI, ev_if_ne, ev_sipush, ev_callV1, ev_iret, ro_i, ro_z, ev_getfR, ev_iconst, ev_istore_n1, ev_nop, ev_iload_n1, ev_bipush, ev_ic_ge, ev_aaload, ev_callV0, ev_if_eq, ev_isub, ev_iinc1, ev_goto, ↓e_X0_copyFrom, ↓e_X3_clear, ↓e_X3_showsHeir, ↓e_X5_isHeir, ↓e_X5_refuse, capO_z, kb_6, kb_11, kb_13, kb_15, kb_17, kb_18, kb_19, kb_23, kb_24, kb_25, kb_26, kb_29, kb_31, kb_35, kb_37, kb_41, kb_43, kb_44, kb_61, kb_75, kb_104, kb_7, kb_8, kb_9, kb_10, kb_12, kb_16, kb_20, kb_21, kb_30, kb_32, kb_40, kb_48, kb_50, kb_57, kb_59, kb_60, kb_63, kb_70, kb_78, kb_81, kb_82, kb_84, kb_97, kb_99, kb_100, kb_101, kb_119, kb_120, kb_122, ki_m1, ki_0, ki_1, ki_2, ki_3, ki_4, ki_5, ki_6, ki_7, ki_8, ki_9, ki_10, ki_11, ki_12, ki_13, ki_14, ki_15, ki_16, ki_17, ki_18, ki_19, ki_20, ki_21, ki_22, ki_23, ki_24, ki_25, ki_26, ki_27, ki_28, ki_29, ki_30, ki_31, ki_32, ki_33, ki_34, ki_35, ki_36, ki_37, ki_38, ki_39, ki_40, ki_41, ki_42, ki_43, ki_44, ki_45, ki_46, ki_47, ki_48, ki_49, ki_50, ki_51, ki_52, ki_53, ki_54, ki_55, ki_56, ki_57, ki_58, ki_59, ki_60, ki_61, ki_62, ki_63, ks_m2000, ks_m1006, ks_m1005, ks_m1004, ks_m1003, ks_m1002, ks_m1000, ks_200, ks_201, ks_300, ks_720, ks_9000, ks_10000, ks_250, ks_255, ks_256, ks_320, ks_660, ks_999, ks_1000, ks_9999, ks_12345, ne_2, ne_10, t_0, t_40, t_41, t_42, t_43, t_44, t_45, t_46, t_47, r_0_0, r_0_1, r_0_2, r_0_4, r_0_5, r_0_6, r_0_7, r_40_0, r_40_5, r_44_0, r_44_1, t_1, t_14, t_27, t_2, t_15, t_28, t_64, Nat.reduceEqDiff, ne_eq, not_false_eq_true, false_implies, true_implies, implies_true, Nat.reduceAdd, Nat.reduceLeDiff, Nat.reduceLT, Nat.reduceMul, or_true, true_or, if_true, if_false, not_true_eq_false, and_self, bF, Nat.reduceBEq, Bool.false_and, Bool.and_false, Bool.or_self, Bool.or_false, Bool.false_or, Bool.false_eq_true, Int.reduceAdd, Bool.and_self, Bool.true_and, Bool.and_true, beq_self_eq_true, not_not_, i10_, i01_, List.length_nil, List.length_cons, true_and, and_true, false_and, and_false, kl_i, kl_a, kl_n, kl_l, tl_s, tl_n, rv_S, pd_0, pd_e, pd_r, pd_i, pd_l, e3, zero_z, ic_5]
    exact hK _ (simX_ref hI hG kc5) (frX_ref h _)
