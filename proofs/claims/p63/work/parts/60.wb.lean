variable {nn : Nat}
/-! ===== the law's row of ints: what it tells of an estate ===== -/
theorem nI_div {m d : Nat} (hm : m < 2147483648) (h0 : 0 < d) (hd : d < 2147483648) : nI m / nI d = nI (m / d) := by
  apply Int32.toInt_inj.mp
  have h1 : m / d ≤ m := Nat.div_le_self m d
  rw [(ti_div (a := nI m) (b := nI d) (by rw [nI_toInt hm]; omega) (by rw [nI_toInt hd]; omega)).1, nI_toInt hm, nI_toInt hd, nI_toInt (by omega)]
  rfl
theorem nI_mulN (a b : Nat) : nI a * nI b = nI (a * b) := (Int32.ofNat_mul a b).symm
theorem nI_mod {m d : Nat} (hm : m < 2147483648) (h0 : 0 < d) (hd : d < 2147483648) : nI m - nI m / nI d * nI d = nI (m % d) := by
  rw [nI_div hm h0 hd, nI_mulN, nI_sub (Nat.div_mul_le_self m d) hm]
  congr 1
  have := Nat.div_add_mod m d
  rw [Nat.mul_comm] at this
  omega
def cdE (k a f y u : Nat) : Nat := k + 10 * a + 100 * f + 10000 * y + 10000000 * u
def smN (k a f y u : Nat) : Prop := k < 6 ∧ a < 10 ∧ f < 11 ∧ y < 1000 ∧ u < 3
theorem cd_b {k a f y u : Nat} (h : smN k a f y u) : cdE k a f y u < 30000000 := by
  obtain ⟨h1, h2, h3, h4, h5⟩ := h
  unfold cdE; omega
theorem cd_k {k a f y u : Nat} (h : smN k a f y u) : cdE k a f y u % 10 = k := by
  obtain ⟨h1, h2, h3, h4, h5⟩ := h
  unfold cdE; omega
theorem cd_a {k a f y u : Nat} (h : smN k a f y u) : cdE k a f y u / 10 % 10 = a := by
  obtain ⟨h1, h2, h3, h4, h5⟩ := h
  unfold cdE; omega
theorem cd_f {k a f y u : Nat} (h : smN k a f y u) : cdE k a f y u / 100 % 100 = f := by
  obtain ⟨h1, h2, h3, h4, h5⟩ := h
  unfold cdE; omega
theorem cd_y {k a f y u : Nat} (h : smN k a f y u) : cdE k a f y u / 10000 % 1000 = y := by
  obtain ⟨h1, h2, h3, h4, h5⟩ := h
  unfold cdE; omega
theorem cd_u {k a f y u : Nat} (h : smN k a f y u) : cdE k a f y u / 10000000 = u := by
  obtain ⟨h1, h2, h3, h4, h5⟩ := h
  unfold cdE; omega
theorem n5 (i : Nat) : (5 : Int32) + nI i = nI (5 + i) := nI_add 5 i
theorem n15 (i : Nat) : (15 : Int32) + nI i = nI (15 + i) := nI_add 15 i
theorem n25 (i : Nat) : (25 : Int32) + nI i = nI (25 + i) := nI_add 25 i
theorem n35 (i : Nat) : (35 : Int32) + nI i = nI (35 + i) := nI_add 35 i
theorem vp43 {i : Nat} (hi : i < 43) : vp_in (nI i) 43 = True := vpN hi (by omega)
theorem vp43_0 : vp_in 0 43 = True := vp43 (i := 0) (by omega)
theorem vp43_1 : vp_in 1 43 = True := vp43 (i := 1) (by omega)
theorem vp43_2 : vp_in 2 43 = True := vp43 (i := 2) (by omega)
theorem vp43_3 : vp_in 3 43 = True := vp43 (i := 3) (by omega)
theorem vp43_4 : vp_in 4 43 = True := vp43 (i := 4) (by omega)
theorem cl_1 : (1 : Int32).toNatClampNeg = 1 := by decide
theorem cl_2 : (2 : Int32).toNatClampNeg = 2 := by decide
theorem cl_3 : (3 : Int32).toNatClampNeg = 3 := by decide
theorem cl_4 : (4 : Int32).toNatClampNeg = 4 := by decide
theorem kn_10m : cstV 0 = 10000000 := by decide
theorem ne_100 : ((100 : Int32) = 0) = False := by decide
theorem ne_1000 : ((1000 : Int32) = 0) = False := by decide
theorem ne_10000 : ((10000 : Int32) = 0) = False := by decide
theorem ne_10m : ((10000000 : Int32) = 0) = False := by decide
theorem gB (h : AH) (p q : Nat) (v : Int32) : gI (pI h 64 p v) 64 q = if q = p then v else gI h 64 q := by rw [gI_pI]; simp
/-- nothing but the law's row has changed -/
def frB (h h' : AH) : Prop := (∀ c k, c ≠ 64 → gI h' c k = gI h c k) ∧ ∀ c k, gJ h' c k = gJ h c k
theorem frB_rf (h : AH) : frB h h := ⟨fun _ _ _ => rfl, fun _ _ => rfl⟩
theorem frB_tr {h h' h'' : AH} (p1 : frB h h') (p2 : frB h' h'') : frB h h'' := ⟨fun c k hc => (p2.1 c k hc).trans (p1.1 c k hc), fun c k => (p2.2 c k).trans (p1.2 c k)⟩
theorem frB_p {h h' : AH} (p : frB h h') {k : Nat} {v : Int32} : frB h (pI h' 64 k v) := ⟨fun c' k' hc' => by rw [gI_pI, if_neg (fun z => hc' z.1)]; exact p.1 c' k' hc', p.2⟩
theorem simX_B {h h' : AH} {G : GV} (hI : okG G) (hx : simX h G) (p : frB h h') : simX h' G := simX_fr hI hx (fun c => 64 ≤ c) (fun c hc => by omega) (fun c k hc => p.1 c k (by omega)) (fun c k hc => p.2 c k)
/-- one HEIR, as the row has him -/
def smE (E : ES) (i k a f y u : Nat) : Prop := smN k a f y u ∧ f ≤ i ∧ eF E i 0 = nI k ∧ eF E i 1 = nI a ∧ eF E i 2 = nI f - 1 ∧ eF E i 3 = nI y ∧ eF E i 6 = nI u
def relH (B : Nat → Int32) (E : ES) (i : Nat) : Prop := (∃ k a f y u, smE E i k a f y u ∧ B (5 + i) = nI (cdE k a f y u)) ∧ B (15 + i) = eF E i 4 ∧ B (25 + i) = eF E i 5
def relB (B : Nat → Int32) (E : ES) : Prop := (B 0 = nI (cnt E) ∧ cnt E ≤ 10) ∧ B 1 = eS E 0 ∧ (B 2 = eS E 1 ∧ ∃ w : Nat, w < 1000 ∧ eS E 1 = nI w) ∧ B 3 = eS E 2 ∧ (∀ t, t < 8 → B (35 + t) = eJ E t ∧ ∃ v : Nat, v < 10 ∧ eJ E t = nI v) ∧ ∀ i, i < cnt E → relH B E i
def P_L_some : Sp0T := fun as h K => match as with
  | [.int v, .int n] => ∃ m : Nat, 0 < m ∧ m < 2147483647 ∧ n = nI m ∧ ∀ j : Nat, j < m → K (some (.int (nI j))) h
  | _ => False
def S_L_some : SpT := lift P_L_some
def L_L_some_15 : List Item := (15, .ireturn, [], nS) :: []
def L_L_some_14 : List Item := (14, .iload_n 2, [], nS) :: L_L_some_15
def L_L_some_0 : List Item := (0, .iload_n 0, [], nS) :: (1, .iload_n 1, [], nS) :: (2, .irem, [], nS) :: (3, .istore_n 2, [], nS) :: (4, .iload_n 2, [], nS) :: (5, .ifCond .ge 9, [14], nS) :: (8, .iload_n 2, [], nS) :: (9, .iload_n 1, [], nS) :: (10, .iadd, [], nS) :: (11, .goto 4, [15], nS) :: L_L_some_14
def L_L_some : List Item := L_L_some_0
theorem ok_L_some : okB cL_some L_L_some = true := by decide +kernel
theorem lk_L_some (l : Launch) : LKs l RL 1 false L_L_some := ⟨trivial, trivial, trivial, trivial, trivial, trivial, trivial, trivial, trivial, trivial, trivial, trivial, trivial⟩
theorem b_L_some_0 : atL L_L_some 0 = L_L_some_0 := rfl
theorem b_L_some_14 : atL L_L_some 14 = L_L_some_14 := rfl
theorem b_L_some_15 : atL L_L_some 15 = L_L_some_15 := rfl
theorem a_L_some_14 : afw L_L_some [] 14 = L_L_some_14 := rfl
theorem a_L_some_15 : afw L_L_some [] 15 = L_L_some_15 := rfl
theorem yv_L_some : YS yL_some cL_some 3 (some .int) 2 := ⟨⟨gT_of (List.mem_of_getElem? (i := 731) (by decide +kernel)) rfl, gT_of (List.mem_of_getElem? (i := 25) (by decide +kernel)) rfl, ⟨by decide, by decide⟩, by decide +kernel, by decide⟩, gT_of (List.mem_of_getElem? (i := 730) (by decide +kernel)) rfl⟩
theorem u_L_some_0 : L_L_some_0 = (0, .iload_n 0, [], nS) :: (1, .iload_n 1, [], nS) :: (2, .irem, [], nS) :: (3, .istore_n 2, [], nS) :: (4, .iload_n 2, [], nS) :: (5, .ifCond .ge 9, [14], nS) :: (8, .iload_n 2, [], nS) :: (9, .iload_n 1, [], nS) :: (10, .iadd, [], nS) :: (11, .goto 4, [15], nS) :: L_L_some_14 := nr rfl
theorem u_L_some_14 : L_L_some_14 = (14, .iload_n 2, [], nS) :: L_L_some_15 := nr rfl
theorem u_L_some_15 : L_L_some_15 = (15, .ireturn, [], nS) :: [] := nr rfl
theorem z_L_some_0 : atL L_L_some 0 = L_L_some_0 := nr rfl
theorem z_L_some_14 : atL L_L_some 14 = L_L_some_14 := nr rfl
theorem z_L_some_15 : atL L_L_some 15 = L_L_some_15 := nr rfl
theorem j_L_some_14 {G : List Item → SpS → List Value → List Value → AH → Prop} {J : Nat → SpS → List Value → List Value → AH → Prop} {S : SpS} {lv st : List Value} {h : AH} : jmp G J (afw L_L_some [] 14) 14 S lv st h = G L_L_some_14 S lv st h := nr rfl
theorem j_L_some_15 {G : List Item → SpS → List Value → List Value → AH → Prop} {J : Nat → SpS → List Value → List Value → AH → Prop} {S : SpS} {lv st : List Value} {h : AH} : jmp G J (afw L_L_some [] 15) 15 S lv st h = G L_L_some_15 S lv st h := nr rfl
theorem e_L_some {v : Int32} {n : Int32} {h : AH} {K2 : Option Value → SpS → AH → Prop} : S_L_some (SHn nn) [.int v, .int n] h K2 = (fun (K : Option Value → AH → Prop) => ∃ m : Nat, 0 < m ∧ m < 2147483647 ∧ n = nI m ∧ ∀ j : Nat, j < m → K (some (.int (nI j))) h) (fun v h' => K2 v (SHn nn) h') := (lift_e P_L_some [.int v, .int n] h K2).trans (nr rfl)
set_option maxRecDepth 100000 in
set_option maxHeartbeats 4000000 in
theorem c_L_some (l : Launch) : Ct l yL_some cL_some 3 (some .int) 1 0 0 S_L_some := by
  refine Ct0_mk L_L_some [] (by decide +kernel) (by decide) ok_L_some (lk_L_some l) ?_
  intro nn as h K hP
  match as, hP with
  | [.int v, .int n], ⟨m, hm0, hm, hn, hK⟩ =>
  refine ⟨by simp [slotsN, Value.category], fun J hJ => ?_⟩
  subst hn
  have n0 := nI_ne0 hm0 (show m < 2 ^ 31 by omega)
  have tm := nI_toInt (n := m) (by omega)
  have b0 := Int32.toInt_lt v
  have b1 := Int32.le_toInt v
  have tq : (v.toInt.tdiv m).natAbs = v.toInt.natAbs / m := Int.natAbs_tdiv _ _
  have h3 : (v.toInt.tmod m).natAbs = v.toInt.natAbs % m := Int.natAbs_tmod _ _
  have h4 := Nat.mod_lt v.toInt.natAbs hm0
  have h1 := Int.tmod_add_tdiv_mul v.toInt m
  have hr : (v - v / nI m * nI m).toInt = v.toInt.tmod m := by
    have d1 : (v / nI m).toInt = v.toInt.tdiv m := by
      rw [Int32.toInt_div, tm]
      by_cases q : 0 ≤ v.toInt
      · have h5 := Int.tdiv_nonneg q (show (0 : Int) ≤ m by omega)
        have h6 : v.toInt.natAbs / m ≤ v.toInt.natAbs := Nat.div_le_self _ _
        exact Int.bmod_eq_of_le (by omega) (by omega)
      · by_cases q2 : m = 1
        · subst q2
          have h5 : v.toInt.tdiv ((1 : Nat) : Int) = v.toInt := Int.tdiv_one _
          rw [h5]
          exact Int.bmod_eq_of_le (by omega) (by omega)
        · have h6 : v.toInt.natAbs / m ≤ v.toInt.natAbs / 2 := Nat.div_le_div_left (by omega) (by omega)
          exact Int.bmod_eq_of_le (by omega) (by omega)
    have d2 : (v / nI m * nI m).toInt = (v.toInt.tdiv m) * m := by
      have h5 : ((v.toInt.tdiv m) * m).natAbs ≤ v.toInt.natAbs := by
        rw [Int.natAbs_mul, tq]
        exact Nat.div_mul_le_self _ _
      rw [Int32.toInt_mul, d1, tm]
      generalize (v.toInt.tdiv m) * m = z at *
      by_cases q : z = 2147483648
      · exfalso
        omega
      · exact Int.bmod_eq_of_le (by omega) (by omega)
    rw [Int32.toInt_sub, d2]
    have h5 : v.toInt - v.toInt.tdiv m * m = v.toInt.tmod m := by omega
    rw [h5]
    exact Int.bmod_eq_of_le (by omega) (by omega)
  refine hJ 0 _ _ _ _ ?_
  simp only [z_L_some_0, u_L_some_0, u_L_some_14, u_L_some_15, j_L_some_14, j_L_some_15, ev_iload_n0, ev_iload_n1, ev_irem, ev_istore_n2, ev_iload_n2, ev_if_ge, ev_iadd, ev_goto, ev_iret, ro_i, ro_z, capO_z, kb_6, kb_11, kb_13, kb_15, kb_17, kb_18, kb_19, kb_23, kb_24, kb_25, kb_26, kb_29, kb_31, kb_35, kb_37, kb_41, kb_43, kb_44, kb_61, kb_75, kb_104, kb_7, kb_8, kb_9, kb_10, kb_12, kb_16, kb_20, kb_21, kb_30, kb_32, kb_40, kb_48, kb_50, kb_57, kb_59, kb_60, kb_63, kb_70, kb_78, kb_81, kb_82, kb_84, kb_97, kb_99, kb_100, kb_101, kb_119, kb_120, kb_122, ki_m1, ki_0, ki_1, ki_2, ki_3, ki_4, ki_5, ki_6, ki_7, ki_8, ki_9, ki_10, ki_11, ki_12, ki_13, ki_14, ki_15, ki_16, ki_17, ki_18, ki_19, ki_20, ki_21, ki_22, ki_23, ki_24, ki_25, ki_26, ki_27, ki_28, ki_29, ki_30, ki_31, ki_32, ki_33, ki_34, ki_35, ki_36, ki_37, ki_38, ki_39, ki_40, ki_41, ki_42, ki_43, ki_44, ki_45, ki_46, ki_47, ki_48, ki_49, ki_50, ki_51, ki_52, ki_53, ki_54, ki_55, ki_56, ki_57, ki_58, ki_59, ki_60, ki_61, ki_62, ki_63, ks_m2000, ks_m1006, ks_m1005, ks_m1004, ks_m1003, ks_m1002, ks_m1000, ks_200, ks_201, ks_300, ks_720, ks_9000, ks_10000, ks_250, ks_255, ks_256, ks_320, ks_660, ks_999, ks_1000, ks_9999, ks_12345, ne_2, ne_10, t_0, t_40, t_41, t_42, t_43, t_44, t_45, t_46, t_47, r_0_0, r_0_1, r_0_2, r_0_4, r_0_5, r_0_6, r_0_7, r_40_0, r_40_5, r_44_0, r_44_1, t_1, t_14, t_27, t_2, t_15, t_28, t_64, Nat.reduceEqDiff, ne_eq, not_false_eq_true, false_implies, true_implies, implies_true, Nat.reduceAdd, Nat.reduceLeDiff, Nat.reduceLT, Nat.reduceMul, or_true, true_or, if_true, if_false, not_true_eq_false, and_self, bF, Nat.reduceBEq, Bool.false_and, Bool.and_false, Bool.or_self, Bool.or_false, Bool.false_or, Bool.false_eq_true, Int.reduceAdd, Bool.and_self, Bool.true_and, Bool.and_true, beq_self_eq_true, not_not_, i10_, i01_, List.length_nil, List.length_cons, true_and, and_true, false_and, and_false, kl_i, kl_a, kl_n, kl_l, tl_s, tl_n, rv_S, pd_0, pd_e, pd_r, pd_i, pd_l, n0]
  generalize hR : v - v / nI m * nI m = R at *
  refine ⟨fun q => ?_, fun q => ?_⟩
  · rw [le_ti, ti_0] at q
    have e : R = nI R.toInt.toNat := nI_ofP q
    rw [e]
    exact hK _ (by omega)
  · rw [le_ti, ti_0] at q
    have e0 := ti_add (a := R) (b := nI m) (by rw [tm]; omega) (by rw [tm]; omega)
    have e : R + nI m = nI (R + nI m).toInt.toNat := nI_ofP (by rw [e0, tm]; omega)
    rw [e]
    exact hK _ (by rw [e0, tm]; omega)
def upN (m d : Nat) : Nat := m / d + (if 0 < m % d then 1 else 0)
def P_L_up : Sp0T := fun as h K => match as with
  | [.int v, .int n] => ∃ m d : Nat, m < 2147483647 ∧ v = nI m ∧ 0 < d ∧ d < 2147483647 ∧ n = nI d ∧ K (some (.int (nI (upN m d)))) h
  | _ => False
def S_L_up : SpT := lift P_L_up
def L_L_up_14 : List Item := (14, .iadd, [], nS) :: (15, .ireturn, [], nS) :: []
def L_L_up_13 : List Item := (13, .iconst 0, [], nS) :: L_L_up_14
def L_L_up_0 : List Item := (0, .iload_n 0, [], nS) :: (1, .iload_n 1, [], nS) :: (2, .idiv, [], nS) :: (3, .iload_n 0, [], nS) :: (4, .iload_n 1, [], nS) :: (5, .irem, [], nS) :: (6, .ifCond .le 7, [13], nS) :: (9, .iconst 1, [], nS) :: (10, .goto 4, [14], nS) :: L_L_up_13
def L_L_up : List Item := L_L_up_0
theorem ok_L_up : okB cL_up L_L_up = true := by decide +kernel
theorem lk_L_up (l : Launch) : LKs l RL 1 false L_L_up := ⟨trivial, trivial, trivial, trivial, trivial, trivial, trivial, trivial, trivial, trivial, trivial, trivial, trivial⟩
theorem b_L_up_0 : atL L_L_up 0 = L_L_up_0 := rfl
theorem b_L_up_13 : atL L_L_up 13 = L_L_up_13 := rfl
theorem b_L_up_14 : atL L_L_up 14 = L_L_up_14 := rfl
theorem a_L_up_13 : afw L_L_up [] 13 = L_L_up_13 := rfl
theorem a_L_up_14 : afw L_L_up [] 14 = L_L_up_14 := rfl
theorem yv_L_up : YS yL_up cL_up 2 (some .int) 2 := ⟨⟨gT_of (List.mem_of_getElem? (i := 752) (by decide +kernel)) rfl, gT_of (List.mem_of_getElem? (i := 25) (by decide +kernel)) rfl, ⟨by decide, by decide⟩, by decide +kernel, by decide⟩, gT_of (List.mem_of_getElem? (i := 751) (by decide +kernel)) rfl⟩
theorem u_L_up_0 : L_L_up_0 = (0, .iload_n 0, [], nS) :: (1, .iload_n 1, [], nS) :: (2, .idiv, [], nS) :: (3, .iload_n 0, [], nS) :: (4, .iload_n 1, [], nS) :: (5, .irem, [], nS) :: (6, .ifCond .le 7, [13], nS) :: (9, .iconst 1, [], nS) :: (10, .goto 4, [14], nS) :: L_L_up_13 := nr rfl
theorem u_L_up_13 : L_L_up_13 = (13, .iconst 0, [], nS) :: L_L_up_14 := nr rfl
theorem u_L_up_14 : L_L_up_14 = (14, .iadd, [], nS) :: (15, .ireturn, [], nS) :: [] := nr rfl
theorem z_L_up_0 : atL L_L_up 0 = L_L_up_0 := nr rfl
theorem z_L_up_13 : atL L_L_up 13 = L_L_up_13 := nr rfl
theorem z_L_up_14 : atL L_L_up 14 = L_L_up_14 := nr rfl
theorem j_L_up_13 {G : List Item → SpS → List Value → List Value → AH → Prop} {J : Nat → SpS → List Value → List Value → AH → Prop} {S : SpS} {lv st : List Value} {h : AH} : jmp G J (afw L_L_up [] 13) 13 S lv st h = G L_L_up_13 S lv st h := nr rfl
theorem j_L_up_14 {G : List Item → SpS → List Value → List Value → AH → Prop} {J : Nat → SpS → List Value → List Value → AH → Prop} {S : SpS} {lv st : List Value} {h : AH} : jmp G J (afw L_L_up [] 14) 14 S lv st h = G L_L_up_14 S lv st h := nr rfl
theorem e_L_up {v : Int32} {n : Int32} {h : AH} {K2 : Option Value → SpS → AH → Prop} : S_L_up (SHn nn) [.int v, .int n] h K2 = (fun (K : Option Value → AH → Prop) => ∃ m d : Nat, m < 2147483647 ∧ v = nI m ∧ 0 < d ∧ d < 2147483647 ∧ n = nI d ∧ K (some (.int (nI (upN m d)))) h) (fun v h' => K2 v (SHn nn) h') := (lift_e P_L_up [.int v, .int n] h K2).trans (nr rfl)
set_option maxRecDepth 100000 in
set_option maxHeartbeats 4000000 in
theorem c_L_up (l : Launch) : Ct l yL_up cL_up 2 (some .int) 1 0 0 S_L_up := by
  refine Ct0_mk L_L_up [] (by decide +kernel) (by decide) ok_L_up (lk_L_up l) ?_
  intro nn as h K hP
  match as, hP with
  | [.int v, .int n], ⟨m, d, hm, hv, hd0, hd, hn, hK⟩ =>
  refine ⟨by simp [slotsN, Value.category], fun J hJ => ?_⟩
  subst hv hn
  have n0 := nI_ne0 hd0 (show d < 2 ^ 31 by omega)
  have r1 := nI_div (m := m) (d := d) (by omega) hd0 (by omega)
  have r2 := nI_mod (m := m) (d := d) (by omega) hd0 (by omega)
  have r3 := Nat.mod_lt m hd0
  rw [r1] at r2
  unfold upN at hK
  refine hJ 0 _ _ _ _ ?_
  simp only [z_L_up_0, u_L_up_0, u_L_up_13, u_L_up_14, j_L_up_13, j_L_up_14, ev_iload_n0, ev_iload_n1, ev_idiv, ev_irem, ev_if_le, ev_iconst, ev_goto, ev_iadd, ev_iret, ro_i, ro_z, capO_z, kb_6, kb_11, kb_13, kb_15, kb_17, kb_18, kb_19, kb_23, kb_24, kb_25, kb_26, kb_29, kb_31, kb_35, kb_37, kb_41, kb_43, kb_44, kb_61, kb_75, kb_104, kb_7, kb_8, kb_9, kb_10, kb_12, kb_16, kb_20, kb_21, kb_30, kb_32, kb_40, kb_48, kb_50, kb_57, kb_59, kb_60, kb_63, kb_70, kb_78, kb_81, kb_82, kb_84, kb_97, kb_99, kb_100, kb_101, kb_119, kb_120, kb_122, ki_m1, ki_0, ki_1, ki_2, ki_3, ki_4, ki_5, ki_6, ki_7, ki_8, ki_9, ki_10, ki_11, ki_12, ki_13, ki_14, ki_15, ki_16, ki_17, ki_18, ki_19, ki_20, ki_21, ki_22, ki_23, ki_24, ki_25, ki_26, ki_27, ki_28, ki_29, ki_30, ki_31, ki_32, ki_33, ki_34, ki_35, ki_36, ki_37, ki_38, ki_39, ki_40, ki_41, ki_42, ki_43, ki_44, ki_45, ki_46, ki_47, ki_48, ki_49, ki_50, ki_51, ki_52, ki_53, ki_54, ki_55, ki_56, ki_57, ki_58, ki_59, ki_60, ki_61, ki_62, ki_63, ks_m2000, ks_m1006, ks_m1005, ks_m1004, ks_m1003, ks_m1002, ks_m1000, ks_200, ks_201, ks_300, ks_720, ks_9000, ks_10000, ks_250, ks_255, ks_256, ks_320, ks_660, ks_999, ks_1000, ks_9999, ks_12345, ne_2, ne_10, t_0, t_40, t_41, t_42, t_43, t_44, t_45, t_46, t_47, r_0_0, r_0_1, r_0_2, r_0_4, r_0_5, r_0_6, r_0_7, r_40_0, r_40_5, r_44_0, r_44_1, t_1, t_14, t_27, t_2, t_15, t_28, t_64, Nat.reduceEqDiff, ne_eq, not_false_eq_true, false_implies, true_implies, implies_true, Nat.reduceAdd, Nat.reduceLeDiff, Nat.reduceLT, Nat.reduceMul, or_true, true_or, if_true, if_false, not_true_eq_false, and_self, bF, Nat.reduceBEq, Bool.false_and, Bool.and_false, Bool.or_self, Bool.or_false, Bool.false_or, Bool.false_eq_true, Int.reduceAdd, Bool.and_self, Bool.true_and, Bool.and_true, beq_self_eq_true, not_not_, i10_, i01_, List.length_nil, List.length_cons, true_and, and_true, false_and, and_false, kl_i, kl_a, kl_n, kl_l, tl_s, tl_n, rv_S, pd_0, pd_e, pd_r, pd_i, pd_l, n0, r1, r2]
  refine ⟨fun q => ?_, fun q => ?_⟩
  · rw [le_ti, ti_0, nI_toInt (by omega)] at q
    rw [if_neg (by omega)] at hK
    rw [Int32.add_zero]
    exact hK
  · rw [le_ti, ti_0, nI_toInt (by omega)] at q
    rw [if_pos (by omega), ← nI_1] at hK
    exact hK
def P_L_own : Sp0T := fun as h K => match as with
  | [.ref b, .int x] => b = 64 ∧ ∃ i k a f y u : Nat, i < 10 ∧ x = nI i ∧ gI h 64 (5 + i) = nI (cdE k a f y u) ∧ smN k a f y u ∧ K (some (.int (nI a))) h
  | _ => False
def S_L_own : SpT := lift1 P_L_own
def L_L_own_0 : List Item := (0, .aload_n 0, [], nS) :: (1, .iconst 5, [], nS) :: (2, .iload_n 1, [], nS) :: (3, .iadd, [], nS) :: (4, .iaload, [], nS) :: (5, .bipush 10, [], nS) :: (7, .idiv, [], nS) :: (8, .bipush 10, [], nS) :: (10, .irem, [], nS) :: (11, .ireturn, [], nS) :: []
def L_L_own : List Item := L_L_own_0
theorem ok_L_own : okB cL_own L_L_own = true := by decide +kernel
theorem lk_L_own (l : Launch) : LKs l RL 1 false L_L_own := ⟨trivial, trivial, trivial, trivial, trivial, trivial, trivial, trivial, trivial, trivial, trivial⟩
theorem b_L_own_0 : atL L_L_own 0 = L_L_own_0 := rfl
theorem yv_L_own : YS yL_own cL_own 2 (some .int) 2 := ⟨⟨gT_of (List.mem_of_getElem? (i := 758) (by decide +kernel)) rfl, gT_of (List.mem_of_getElem? (i := 25) (by decide +kernel)) rfl, ⟨by decide, by decide⟩, by decide +kernel, by decide⟩, gT_of (List.mem_of_getElem? (i := 757) (by decide +kernel)) rfl⟩
theorem u_L_own_0 : L_L_own_0 = (0, .aload_n 0, [], nS) :: (1, .iconst 5, [], nS) :: (2, .iload_n 1, [], nS) :: (3, .iadd, [], nS) :: (4, .iaload, [], nS) :: (5, .bipush 10, [], nS) :: (7, .idiv, [], nS) :: (8, .bipush 10, [], nS) :: (10, .irem, [], nS) :: (11, .ireturn, [], nS) :: [] := nr rfl
theorem z_L_own_0 : atL L_L_own 0 = L_L_own_0 := nr rfl
theorem e_L_own {b : Addr} {x : Int32} {h : AH} {K2 : Option Value → SpS → AH → Prop} : S_L_own (SHn 1) [.ref b, .int x] h K2 = (fun (K : Option Value → AH → Prop) => b = 64 ∧ ∃ i k a f y u : Nat, i < 10 ∧ x = nI i ∧ gI h 64 (5 + i) = nI (cdE k a f y u) ∧ smN k a f y u ∧ K (some (.int (nI a))) h) (fun v h' => K2 v (SHn 1) h') := (lift1_e P_L_own [.ref b, .int x] h K2).trans (nr rfl)
set_option maxRecDepth 100000 in
set_option maxHeartbeats 4000000 in
theorem c_L_own (l : Launch) : Ct l yL_own cL_own 2 (some .int) 1 0 0 S_L_own := by
  refine Ct1_mk L_L_own [] (by decide +kernel) (by decide) ok_L_own (lk_L_own l) ?_
  intro as h K hP
  match as, hP with
  | [.ref b, .int x], ⟨hb, i, k, a, f, y, u, hi, hx, hc, hs, hK⟩ =>
  refine ⟨by simp [slotsN, Value.category], fun J hJ => ?_⟩
  subst hb hx
  have b1 := cd_b hs
  have r1 : nI (cdE k a f y u) / 10 = nI (cdE k a f y u / 10) := nI_div (d := 10) (by omega) (by omega) (by omega)
  have r2 : nI (cdE k a f y u / 10) - nI (cdE k a f y u / 10) / 10 * 10 = nI (cdE k a f y u / 10 % 10) := nI_mod (d := 10) (by omega) (by omega) (by omega)
  rw [cd_a hs] at r2
  refine hJ 0 _ _ _ _ ?_
  simp only [z_L_own_0, u_L_own_0, ev_aload_n0, ev_iconst, ev_iload_n1, ev_iadd, ev_iaload, ev_bipush, ev_idiv, ev_irem, ev_iret, ro_i, ro_z, capO_z, kb_6, kb_11, kb_13, kb_15, kb_17, kb_18, kb_19, kb_23, kb_24, kb_25, kb_26, kb_29, kb_31, kb_35, kb_37, kb_41, kb_43, kb_44, kb_61, kb_75, kb_104, kb_7, kb_8, kb_9, kb_10, kb_12, kb_16, kb_20, kb_21, kb_30, kb_32, kb_40, kb_48, kb_50, kb_57, kb_59, kb_60, kb_63, kb_70, kb_78, kb_81, kb_82, kb_84, kb_97, kb_99, kb_100, kb_101, kb_119, kb_120, kb_122, ki_m1, ki_0, ki_1, ki_2, ki_3, ki_4, ki_5, ki_6, ki_7, ki_8, ki_9, ki_10, ki_11, ki_12, ki_13, ki_14, ki_15, ki_16, ki_17, ki_18, ki_19, ki_20, ki_21, ki_22, ki_23, ki_24, ki_25, ki_26, ki_27, ki_28, ki_29, ki_30, ki_31, ki_32, ki_33, ki_34, ki_35, ki_36, ki_37, ki_38, ki_39, ki_40, ki_41, ki_42, ki_43, ki_44, ki_45, ki_46, ki_47, ki_48, ki_49, ki_50, ki_51, ki_52, ki_53, ki_54, ki_55, ki_56, ki_57, ki_58, ki_59, ki_60, ki_61, ki_62, ki_63, ks_m2000, ks_m1006, ks_m1005, ks_m1004, ks_m1003, ks_m1002, ks_m1000, ks_200, ks_201, ks_300, ks_720, ks_9000, ks_10000, ks_250, ks_255, ks_256, ks_320, ks_660, ks_999, ks_1000, ks_9999, ks_12345, ne_2, ne_10, t_0, t_40, t_41, t_42, t_43, t_44, t_45, t_46, t_47, r_0_0, r_0_1, r_0_2, r_0_4, r_0_5, r_0_6, r_0_7, r_40_0, r_40_5, r_44_0, r_44_1, t_1, t_14, t_27, t_2, t_15, t_28, t_64, Nat.reduceEqDiff, ne_eq, not_false_eq_true, false_implies, true_implies, implies_true, Nat.reduceAdd, Nat.reduceLeDiff, Nat.reduceLT, Nat.reduceMul, or_true, true_or, if_true, if_false, not_true_eq_false, and_self, bF, Nat.reduceBEq, Bool.false_and, Bool.and_false, Bool.or_self, Bool.or_false, Bool.false_or, Bool.false_eq_true, Int.reduceAdd, Bool.and_self, Bool.true_and, Bool.and_true, beq_self_eq_true, not_not_, i10_, i01_, List.length_nil, List.length_cons, true_and, and_true, false_and, and_false, kl_i, kl_a, kl_n, kl_l, tl_s, tl_n, rv_S, pd_0, pd_e, pd_r, pd_i, pd_l, n5, vp43 (show 5 + i < 43 by omega), nI_clamp (show 5 + i < 2 ^ 31 by omega), hc, r1, r2, ne_10]
  exact hK
def P_L_from : Sp0T := fun as h K => match as with
  | [.ref b, .int x] => b = 64 ∧ ∃ i k a f y u : Nat, i < 10 ∧ x = nI i ∧ gI h 64 (5 + i) = nI (cdE k a f y u) ∧ smN k a f y u ∧ K (some (.int (nI f - 1))) h
  | _ => False
def S_L_from : SpT := lift1 P_L_from
def L_L_from_0 : List Item := (0, .aload_n 0, [], nS) :: (1, .iconst 5, [], nS) :: (2, .iload_n 1, [], nS) :: (3, .iadd, [], nS) :: (4, .iaload, [], nS) :: (5, .bipush 100, [], nS) :: (7, .idiv, [], nS) :: (8, .bipush 100, [], nS) :: (10, .irem, [], nS) :: (11, .iconst 1, [], nS) :: (12, .isub, [], nS) :: (13, .ireturn, [], nS) :: []
def L_L_from : List Item := L_L_from_0
theorem ok_L_from : okB cL_from L_L_from = true := by decide +kernel
theorem lk_L_from (l : Launch) : LKs l RL 1 false L_L_from := ⟨trivial, trivial, trivial, trivial, trivial, trivial, trivial, trivial, trivial, trivial, trivial, trivial, trivial⟩
theorem b_L_from_0 : atL L_L_from 0 = L_L_from_0 := rfl
theorem yv_L_from : YS yL_from cL_from 2 (some .int) 2 := ⟨⟨gT_of (List.mem_of_getElem? (i := 761) (by decide +kernel)) rfl, gT_of (List.mem_of_getElem? (i := 25) (by decide +kernel)) rfl, ⟨by decide, by decide⟩, by decide +kernel, by decide⟩, gT_of (List.mem_of_getElem? (i := 760) (by decide +kernel)) rfl⟩
theorem u_L_from_0 : L_L_from_0 = (0, .aload_n 0, [], nS) :: (1, .iconst 5, [], nS) :: (2, .iload_n 1, [], nS) :: (3, .iadd, [], nS) :: (4, .iaload, [], nS) :: (5, .bipush 100, [], nS) :: (7, .idiv, [], nS) :: (8, .bipush 100, [], nS) :: (10, .irem, [], nS) :: (11, .iconst 1, [], nS) :: (12, .isub, [], nS) :: (13, .ireturn, [], nS) :: [] := nr rfl
theorem z_L_from_0 : atL L_L_from 0 = L_L_from_0 := nr rfl
theorem e_L_from {b : Addr} {x : Int32} {h : AH} {K2 : Option Value → SpS → AH → Prop} : S_L_from (SHn 1) [.ref b, .int x] h K2 = (fun (K : Option Value → AH → Prop) => b = 64 ∧ ∃ i k a f y u : Nat, i < 10 ∧ x = nI i ∧ gI h 64 (5 + i) = nI (cdE k a f y u) ∧ smN k a f y u ∧ K (some (.int (nI f - 1))) h) (fun v h' => K2 v (SHn 1) h') := (lift1_e P_L_from [.ref b, .int x] h K2).trans (nr rfl)
set_option maxRecDepth 100000 in
set_option maxHeartbeats 4000000 in
theorem c_L_from (l : Launch) : Ct l yL_from cL_from 2 (some .int) 1 0 0 S_L_from := by
  refine Ct1_mk L_L_from [] (by decide +kernel) (by decide) ok_L_from (lk_L_from l) ?_
  intro as h K hP
  match as, hP with
  | [.ref b, .int x], ⟨hb, i, k, a, f, y, u, hi, hx, hc, hs, hK⟩ =>
  refine ⟨by simp [slotsN, Value.category], fun J hJ => ?_⟩
  subst hb hx
  have b1 := cd_b hs
  have r1 : nI (cdE k a f y u) / 100 = nI (cdE k a f y u / 100) := nI_div (d := 100) (by omega) (by omega) (by omega)
  have r2 : nI (cdE k a f y u / 100) - nI (cdE k a f y u / 100) / 100 * 100 = nI (cdE k a f y u / 100 % 100) := nI_mod (d := 100) (by omega) (by omega) (by omega)
  rw [cd_f hs] at r2
  refine hJ 0 _ _ _ _ ?_
  simp only [z_L_from_0, u_L_from_0, ev_aload_n0, ev_iconst, ev_iload_n1, ev_iadd, ev_iaload, ev_bipush, ev_idiv, ev_irem, ev_isub, ev_iret, ro_i, ro_z, capO_z, kb_6, kb_11, kb_13, kb_15, kb_17, kb_18, kb_19, kb_23, kb_24, kb_25, kb_26, kb_29, kb_31, kb_35, kb_37, kb_41, kb_43, kb_44, kb_61, kb_75, kb_104, kb_7, kb_8, kb_9, kb_10, kb_12, kb_16, kb_20, kb_21, kb_30, kb_32, kb_40, kb_48, kb_50, kb_57, kb_59, kb_60, kb_63, kb_70, kb_78, kb_81, kb_82, kb_84, kb_97, kb_99, kb_100, kb_101, kb_119, kb_120, kb_122, ki_m1, ki_0, ki_1, ki_2, ki_3, ki_4, ki_5, ki_6, ki_7, ki_8, ki_9, ki_10, ki_11, ki_12, ki_13, ki_14, ki_15, ki_16, ki_17, ki_18, ki_19, ki_20, ki_21, ki_22, ki_23, ki_24, ki_25, ki_26, ki_27, ki_28, ki_29, ki_30, ki_31, ki_32, ki_33, ki_34, ki_35, ki_36, ki_37, ki_38, ki_39, ki_40, ki_41, ki_42, ki_43, ki_44, ki_45, ki_46, ki_47, ki_48, ki_49, ki_50, ki_51, ki_52, ki_53, ki_54, ki_55, ki_56, ki_57, ki_58, ki_59, ki_60, ki_61, ki_62, ki_63, ks_m2000, ks_m1006, ks_m1005, ks_m1004, ks_m1003, ks_m1002, ks_m1000, ks_200, ks_201, ks_300, ks_720, ks_9000, ks_10000, ks_250, ks_255, ks_256, ks_320, ks_660, ks_999, ks_1000, ks_9999, ks_12345, ne_2, ne_10, t_0, t_40, t_41, t_42, t_43, t_44, t_45, t_46, t_47, r_0_0, r_0_1, r_0_2, r_0_4, r_0_5, r_0_6, r_0_7, r_40_0, r_40_5, r_44_0, r_44_1, t_1, t_14, t_27, t_2, t_15, t_28, t_64, Nat.reduceEqDiff, ne_eq, not_false_eq_true, false_implies, true_implies, implies_true, Nat.reduceAdd, Nat.reduceLeDiff, Nat.reduceLT, Nat.reduceMul, or_true, true_or, if_true, if_false, not_true_eq_false, and_self, bF, Nat.reduceBEq, Bool.false_and, Bool.and_false, Bool.or_self, Bool.or_false, Bool.false_or, Bool.false_eq_true, Int.reduceAdd, Bool.and_self, Bool.true_and, Bool.and_true, beq_self_eq_true, not_not_, i10_, i01_, List.length_nil, List.length_cons, true_and, and_true, false_and, and_false, kl_i, kl_a, kl_n, kl_l, tl_s, tl_n, rv_S, pd_0, pd_e, pd_r, pd_i, pd_l, n5, vp43 (show 5 + i < 43 by omega), nI_clamp (show 5 + i < 2 ^ 31 by omega), hc, r1, r2, ne_100]
  exact hK
def P_L_born : Sp0T := fun as h K => match as with
  | [.ref b, .int x] => b = 64 ∧ ∃ i k a f y u : Nat, i < 10 ∧ x = nI i ∧ gI h 64 (5 + i) = nI (cdE k a f y u) ∧ smN k a f y u ∧ K (some (.int (nI y))) h
  | _ => False
def S_L_born : SpT := lift1 P_L_born
def L_L_born_0 : List Item := (0, .aload_n 0, [], nS) :: (1, .iconst 5, [], nS) :: (2, .iload_n 1, [], nS) :: (3, .iadd, [], nS) :: (4, .iaload, [], nS) :: (5, .sipush 10000, [], nS) :: (8, .idiv, [], nS) :: (9, .sipush 1000, [], nS) :: (12, .irem, [], nS) :: (13, .ireturn, [], nS) :: []
def L_L_born : List Item := L_L_born_0
theorem ok_L_born : okB cL_born L_L_born = true := by decide +kernel
theorem lk_L_born (l : Launch) : LKs l RL 1 false L_L_born := ⟨trivial, trivial, trivial, trivial, trivial, trivial, trivial, trivial, trivial, trivial, trivial⟩
theorem b_L_born_0 : atL L_L_born 0 = L_L_born_0 := rfl
theorem yv_L_born : YS yL_born cL_born 2 (some .int) 2 := ⟨⟨gT_of (List.mem_of_getElem? (i := 746) (by decide +kernel)) rfl, gT_of (List.mem_of_getElem? (i := 25) (by decide +kernel)) rfl, ⟨by decide, by decide⟩, by decide +kernel, by decide⟩, gT_of (List.mem_of_getElem? (i := 745) (by decide +kernel)) rfl⟩
theorem u_L_born_0 : L_L_born_0 = (0, .aload_n 0, [], nS) :: (1, .iconst 5, [], nS) :: (2, .iload_n 1, [], nS) :: (3, .iadd, [], nS) :: (4, .iaload, [], nS) :: (5, .sipush 10000, [], nS) :: (8, .idiv, [], nS) :: (9, .sipush 1000, [], nS) :: (12, .irem, [], nS) :: (13, .ireturn, [], nS) :: [] := nr rfl
theorem z_L_born_0 : atL L_L_born 0 = L_L_born_0 := nr rfl
theorem e_L_born {b : Addr} {x : Int32} {h : AH} {K2 : Option Value → SpS → AH → Prop} : S_L_born (SHn 1) [.ref b, .int x] h K2 = (fun (K : Option Value → AH → Prop) => b = 64 ∧ ∃ i k a f y u : Nat, i < 10 ∧ x = nI i ∧ gI h 64 (5 + i) = nI (cdE k a f y u) ∧ smN k a f y u ∧ K (some (.int (nI y))) h) (fun v h' => K2 v (SHn 1) h') := (lift1_e P_L_born [.ref b, .int x] h K2).trans (nr rfl)
set_option maxRecDepth 100000 in
set_option maxHeartbeats 4000000 in
theorem c_L_born (l : Launch) : Ct l yL_born cL_born 2 (some .int) 1 0 0 S_L_born := by
  refine Ct1_mk L_L_born [] (by decide +kernel) (by decide) ok_L_born (lk_L_born l) ?_
  intro as h K hP
  match as, hP with
  | [.ref b, .int x], ⟨hb, i, k, a, f, y, u, hi, hx, hc, hs, hK⟩ =>
  refine ⟨by simp [slotsN, Value.category], fun J hJ => ?_⟩
  subst hb hx
  have b1 := cd_b hs
  have r1 : nI (cdE k a f y u) / 10000 = nI (cdE k a f y u / 10000) := nI_div (d := 10000) (by omega) (by omega) (by omega)
  have r2 : nI (cdE k a f y u / 10000) - nI (cdE k a f y u / 10000) / 1000 * 1000 = nI (cdE k a f y u / 10000 % 1000) := nI_mod (d := 1000) (by omega) (by omega) (by omega)
  rw [cd_y hs] at r2
  refine hJ 0 _ _ _ _ ?_
  simp only [z_L_born_0, u_L_born_0, ev_aload_n0, ev_iconst, ev_iload_n1, ev_iadd, ev_iaload, ev_sipush, ev_idiv, ev_irem, ev_iret, ro_i, ro_z, capO_z, kb_6, kb_11, kb_13, kb_15, kb_17, kb_18, kb_19, kb_23, kb_24, kb_25, kb_26, kb_29, kb_31, kb_35, kb_37, kb_41, kb_43, kb_44, kb_61, kb_75, kb_104, kb_7, kb_8, kb_9, kb_10, kb_12, kb_16, kb_20, kb_21, kb_30, kb_32, kb_40, kb_48, kb_50, kb_57, kb_59, kb_60, kb_63, kb_70, kb_78, kb_81, kb_82, kb_84, kb_97, kb_99, kb_100, kb_101, kb_119, kb_120, kb_122, ki_m1, ki_0, ki_1, ki_2, ki_3, ki_4, ki_5, ki_6, ki_7, ki_8, ki_9, ki_10, ki_11, ki_12, ki_13, ki_14, ki_15, ki_16, ki_17, ki_18, ki_19, ki_20, ki_21, ki_22, ki_23, ki_24, ki_25, ki_26, ki_27, ki_28, ki_29, ki_30, ki_31, ki_32, ki_33, ki_34, ki_35, ki_36, ki_37, ki_38, ki_39, ki_40, ki_41, ki_42, ki_43, ki_44, ki_45, ki_46, ki_47, ki_48, ki_49, ki_50, ki_51, ki_52, ki_53, ki_54, ki_55, ki_56, ki_57, ki_58, ki_59, ki_60, ki_61, ki_62, ki_63, ks_m2000, ks_m1006, ks_m1005, ks_m1004, ks_m1003, ks_m1002, ks_m1000, ks_200, ks_201, ks_300, ks_720, ks_9000, ks_10000, ks_250, ks_255, ks_256, ks_320, ks_660, ks_999, ks_1000, ks_9999, ks_12345, ne_2, ne_10, t_0, t_40, t_41, t_42, t_43, t_44, t_45, t_46, t_47, r_0_0, r_0_1, r_0_2, r_0_4, r_0_5, r_0_6, r_0_7, r_40_0, r_40_5, r_44_0, r_44_1, t_1, t_14, t_27, t_2, t_15, t_28, t_64, Nat.reduceEqDiff, ne_eq, not_false_eq_true, false_implies, true_implies, implies_true, Nat.reduceAdd, Nat.reduceLeDiff, Nat.reduceLT, Nat.reduceMul, or_true, true_or, if_true, if_false, not_true_eq_false, and_self, bF, Nat.reduceBEq, Bool.false_and, Bool.and_false, Bool.or_self, Bool.or_false, Bool.false_or, Bool.false_eq_true, Int.reduceAdd, Bool.and_self, Bool.true_and, Bool.and_true, beq_self_eq_true, not_not_, i10_, i01_, List.length_nil, List.length_cons, true_and, and_true, false_and, and_false, kl_i, kl_a, kl_n, kl_l, tl_s, tl_n, rv_S, pd_0, pd_e, pd_r, pd_i, pd_l, n5, vp43 (show 5 + i < 43 by omega), nI_clamp (show 5 + i < 2 ^ 31 by omega), hc, r1, r2, ne_10000, ne_1000]
  exact hK
def P_L_how : Sp0T := fun as h K => match as with
  | [.ref b, .int x] => b = 64 ∧ ∃ i k a f y u : Nat, i < 10 ∧ x = nI i ∧ gI h 64 (5 + i) = nI (cdE k a f y u) ∧ smN k a f y u ∧ K (some (.int (nI u))) h
  | _ => False
def S_L_how : SpT := lift1 P_L_how
def L_L_how_0 : List Item := (0, .aload_n 0, [], nS) :: (1, .iconst 5, [], nS) :: (2, .iload_n 1, [], nS) :: (3, .iadd, [], nS) :: (4, .iaload, [], nS) :: (5, .ldc 7, [0, 0], nS) :: (7, .idiv, [], nS) :: (8, .ireturn, [], nS) :: []
def L_L_how : List Item := L_L_how_0
theorem ok_L_how : okB cL_how L_L_how = true := by decide +kernel
theorem lk_L_how (l : Launch) : LKs l RL 1 false L_L_how := ⟨trivial, trivial, trivial, trivial, trivial, Or.inl ⟨_, rfl, gT_of (List.mem_of_getElem? (i := 743) (by decide +kernel)) rfl⟩, trivial, trivial, trivial⟩
theorem b_L_how_0 : atL L_L_how 0 = L_L_how_0 := rfl
theorem yv_L_how : YS yL_how cL_how 2 (some .int) 2 := ⟨⟨gT_of (List.mem_of_getElem? (i := 742) (by decide +kernel)) rfl, gT_of (List.mem_of_getElem? (i := 25) (by decide +kernel)) rfl, ⟨by decide, by decide⟩, by decide +kernel, by decide⟩, gT_of (List.mem_of_getElem? (i := 741) (by decide +kernel)) rfl⟩
theorem u_L_how_0 : L_L_how_0 = (0, .aload_n 0, [], nS) :: (1, .iconst 5, [], nS) :: (2, .iload_n 1, [], nS) :: (3, .iadd, [], nS) :: (4, .iaload, [], nS) :: (5, .ldc 7, [0, 0], nS) :: (7, .idiv, [], nS) :: (8, .ireturn, [], nS) :: [] := nr rfl
theorem z_L_how_0 : atL L_L_how 0 = L_L_how_0 := nr rfl
theorem e_L_how {b : Addr} {x : Int32} {h : AH} {K2 : Option Value → SpS → AH → Prop} : S_L_how (SHn 1) [.ref b, .int x] h K2 = (fun (K : Option Value → AH → Prop) => b = 64 ∧ ∃ i k a f y u : Nat, i < 10 ∧ x = nI i ∧ gI h 64 (5 + i) = nI (cdE k a f y u) ∧ smN k a f y u ∧ K (some (.int (nI u))) h) (fun v h' => K2 v (SHn 1) h') := (lift1_e P_L_how [.ref b, .int x] h K2).trans (nr rfl)
set_option maxRecDepth 100000 in
set_option maxHeartbeats 4000000 in
theorem c_L_how (l : Launch) : Ct l yL_how cL_how 2 (some .int) 1 0 0 S_L_how := by
  refine Ct1_mk L_L_how [] (by decide +kernel) (by decide) ok_L_how (lk_L_how l) ?_
  intro as h K hP
  match as, hP with
  | [.ref b, .int x], ⟨hb, i, k, a, f, y, u, hi, hx, hc, hs, hK⟩ =>
  refine ⟨by simp [slotsN, Value.category], fun J hJ => ?_⟩
  subst hb hx
  have b1 := cd_b hs
  have r1 : nI (cdE k a f y u) / 10000000 = nI (cdE k a f y u / 10000000) := nI_div (d := 10000000) (by omega) (by omega) (by omega)
  rw [cd_u hs] at r1
  refine hJ 0 _ _ _ _ ?_
  simp only [z_L_how_0, u_L_how_0, ev_aload_n0, ev_iconst, ev_iload_n1, ev_iadd, ev_iaload, ev_ldcI, ev_idiv, ev_iret, ro_i, ro_z, capO_z, kb_6, kb_11, kb_13, kb_15, kb_17, kb_18, kb_19, kb_23, kb_24, kb_25, kb_26, kb_29, kb_31, kb_35, kb_37, kb_41, kb_43, kb_44, kb_61, kb_75, kb_104, kb_7, kb_8, kb_9, kb_10, kb_12, kb_16, kb_20, kb_21, kb_30, kb_32, kb_40, kb_48, kb_50, kb_57, kb_59, kb_60, kb_63, kb_70, kb_78, kb_81, kb_82, kb_84, kb_97, kb_99, kb_100, kb_101, kb_119, kb_120, kb_122, ki_m1, ki_0, ki_1, ki_2, ki_3, ki_4, ki_5, ki_6, ki_7, ki_8, ki_9, ki_10, ki_11, ki_12, ki_13, ki_14, ki_15, ki_16, ki_17, ki_18, ki_19, ki_20, ki_21, ki_22, ki_23, ki_24, ki_25, ki_26, ki_27, ki_28, ki_29, ki_30, ki_31, ki_32, ki_33, ki_34, ki_35, ki_36, ki_37, ki_38, ki_39, ki_40, ki_41, ki_42, ki_43, ki_44, ki_45, ki_46, ki_47, ki_48, ki_49, ki_50, ki_51, ki_52, ki_53, ki_54, ki_55, ki_56, ki_57, ki_58, ki_59, ki_60, ki_61, ki_62, ki_63, ks_m2000, ks_m1006, ks_m1005, ks_m1004, ks_m1003, ks_m1002, ks_m1000, ks_200, ks_201, ks_300, ks_720, ks_9000, ks_10000, ks_250, ks_255, ks_256, ks_320, ks_660, ks_999, ks_1000, ks_9999, ks_12345, ne_2, ne_10, t_0, t_40, t_41, t_42, t_43, t_44, t_45, t_46, t_47, r_0_0, r_0_1, r_0_2, r_0_4, r_0_5, r_0_6, r_0_7, r_40_0, r_40_5, r_44_0, r_44_1, t_1, t_14, t_27, t_2, t_15, t_28, t_64, Nat.reduceEqDiff, ne_eq, not_false_eq_true, false_implies, true_implies, implies_true, Nat.reduceAdd, Nat.reduceLeDiff, Nat.reduceLT, Nat.reduceMul, or_true, true_or, if_true, if_false, not_true_eq_false, and_self, bF, Nat.reduceBEq, Bool.false_and, Bool.and_false, Bool.or_self, Bool.or_false, Bool.false_or, Bool.false_eq_true, Int.reduceAdd, Bool.and_self, Bool.true_and, Bool.and_true, beq_self_eq_true, not_not_, i10_, i01_, List.length_nil, List.length_cons, true_and, and_true, false_and, and_false, kl_i, kl_a, kl_n, kl_l, tl_s, tl_n, rv_S, pd_0, pd_e, pd_r, pd_i, pd_l, n5, vp43 (show 5 + i < 43 by omega), nI_clamp (show 5 + i < 2 ^ 31 by omega), hc]
  intro c hc2
  subst hc2
  simp only [u_L_how_0, ev_aload_n0, ev_iconst, ev_iload_n1, ev_iadd, ev_iaload, ev_ldcI, ev_idiv, ev_iret, ro_i, ro_z, capO_z, kb_6, kb_11, kb_13, kb_15, kb_17, kb_18, kb_19, kb_23, kb_24, kb_25, kb_26, kb_29, kb_31, kb_35, kb_37, kb_41, kb_43, kb_44, kb_61, kb_75, kb_104, kb_7, kb_8, kb_9, kb_10, kb_12, kb_16, kb_20, kb_21, kb_30, kb_32, kb_40, kb_48, kb_50, kb_57, kb_59, kb_60, kb_63, kb_70, kb_78, kb_81, kb_82, kb_84, kb_97, kb_99, kb_100, kb_101, kb_119, kb_120, kb_122, ki_m1, ki_0, ki_1, ki_2, ki_3, ki_4, ki_5, ki_6, ki_7, ki_8, ki_9, ki_10, ki_11, ki_12, ki_13, ki_14, ki_15, ki_16, ki_17, ki_18, ki_19, ki_20, ki_21, ki_22, ki_23, ki_24, ki_25, ki_26, ki_27, ki_28, ki_29, ki_30, ki_31, ki_32, ki_33, ki_34, ki_35, ki_36, ki_37, ki_38, ki_39, ki_40, ki_41, ki_42, ki_43, ki_44, ki_45, ki_46, ki_47, ki_48, ki_49, ki_50, ki_51, ki_52, ki_53, ki_54, ki_55, ki_56, ki_57, ki_58, ki_59, ki_60, ki_61, ki_62, ki_63, ks_m2000, ks_m1006, ks_m1005, ks_m1004, ks_m1003, ks_m1002, ks_m1000, ks_200, ks_201, ks_300, ks_720, ks_9000, ks_10000, ks_250, ks_255, ks_256, ks_320, ks_660, ks_999, ks_1000, ks_9999, ks_12345, ne_2, ne_10, t_0, t_40, t_41, t_42, t_43, t_44, t_45, t_46, t_47, r_0_0, r_0_1, r_0_2, r_0_4, r_0_5, r_0_6, r_0_7, r_40_0, r_40_5, r_44_0, r_44_1, t_1, t_14, t_27, t_2, t_15, t_28, t_64, Nat.reduceEqDiff, ne_eq, not_false_eq_true, false_implies, true_implies, implies_true, Nat.reduceAdd, Nat.reduceLeDiff, Nat.reduceLT, Nat.reduceMul, or_true, true_or, if_true, if_false, not_true_eq_false, and_self, bF, Nat.reduceBEq, Bool.false_and, Bool.and_false, Bool.or_self, Bool.or_false, Bool.false_or, Bool.false_eq_true, Int.reduceAdd, Bool.and_self, Bool.true_and, Bool.and_true, beq_self_eq_true, not_not_, i10_, i01_, List.length_nil, List.length_cons, true_and, and_true, false_and, and_false, kl_i, kl_a, kl_n, kl_l, tl_s, tl_n, rv_S, pd_0, pd_e, pd_r, pd_i, pd_l, kn_10m, r1, ne_10m]
  exact hK
