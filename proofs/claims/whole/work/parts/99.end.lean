/-! THE CLAIM OUT OF ONE WALK OF THE LAW'S BODY. Your part is whole_start (and what it stands on); all else here is the same for every law, but numbers. -/
def R_law : String := "CorkSaysWhenLaw"
def lw_P (b : Addr) (xs : List Int32) (args : Array Value) (s : State) : Prop := args = #[.ref b] ∧ s.IntsAt b xs ∧ xs.length ≤ 3072 ∧ (Jvm.Cond.and given_1 narrow_1).before args s = true
def lw_Q (_ : Array Value) (s : State) (o : Outcome) (t : State) : Prop := o = .returned (some (.int 1)) ∧ Framed s o t [] 600000 7302250
def lw_Z (below : List Frame) (a : Array Value) (s : State) : State → Prop := fun t => ∃ o, t.status = .running ∧ Ended t below o ∧ lw_Q a s o t
/-- the law's own end, with 1 on the stack, nothing written that was there before, its room as the claim has it -/
theorem lw_ret {p : Program} {l : Launch} {e : Env} {s : State} {m : MethodId} {below : List Frame} {meth : Method} {c : Code} {b : Nat} (hx : p.tables.exec = Jvm.exec) (hb : c.code = code) (hr : meth.sig.returnType = ret) (hlocks : meth.locks = false) {pc : Nat} {H : Heap} {ls : Array Slot} (hdg : decode code pc = .ok (.ireturn, 1)) : W p l e room_1 s m #[Value.ref b] below meth c H [] 600000 7302250 (lw_Z below #[Value.ref b] s) (F0 m pc ls [.int 1]) := by
  intro T hT X
  obtain ⟨fs, hret, hrun, hended, hW, hframe⟩ := X.leave (v := some (.int 1)) (hlocks := hlocks) (fun h => by rw [hr] at h; cases h)
  have hmeth' : T.vm.method? m = some meth := X.method'
  refine ⟨T.setFrames fs, ?_, .returned (some (.int 1)), hrun, hended, rfl, ⟨_, rfl⟩, hW, hframe⟩
  jvm_step X.here [X.here.top, hx, hb, hdg, hmeth', hr, ret, narrow_b1]
  (try refine ⟨rfl, ?_⟩); (try refine ⟨rfl, ?_⟩)
  first | (intro acts; rw [hret _ acts rfl rfl rfl]) | rw [hret _ _ rfl rfl rfl]
  exact Steps.refl _
/-- what holds at the law's entry: the machine, the code, the tables' words (any of lw_tbl by 'hts w (by decide +kernel)'), the script of L ints xs at the cell b, what the Statement gives of the start (any of its parts by flat_of_before) -/
def lw_At (p : Program) (s : State) (m : MethodId) (meth : Method) (c : Code) (b L : Nat) (xs : Nat → Int32) : Prop :=
  p.tables.exec = Jvm.exec ∧ c.code = code ∧ meth.sig.returnType = ret ∧ c.maxLocals = 4 ∧ s.vm.findClass R_law = some m.cls ∧ (∀ w ∈ lw_tbl, w.before #[Value.ref b] s = true) ∧ va_X b L xs s s.heap ∧ b < s.heap.size ∧ meth.locks = false ∧ (Jvm.Cond.and given_1 narrow_1).before #[Value.ref b] s = true
-- ===== YOUR PART BEGINS =====
theorem gl_nop {L : Nat} {xs : Nat → Int32} {J : Nat → SpS → List Value → List Value → AH → Prop} {Rt : Option Value → SpS → AH → Prop} {cap : Nat × Nat} {I : List Item} {S : SpS} {lv st : List Value} {h : AH} {pc : Nat} {g : List Nat} {Sp : SpT} : goL L xs J Rt cap (((pc, .nop, g, Sp) : Item) :: I) S lv st h = J pc S lv st h := nr rfl
def W_law_00 : List Item := [(0, .new 7, [5], nS), (3, .dup, [], nS), (4, .invokespecial 9, [0, 63, 920], S_X5_init), (7, .astore_n 1, [], nS), (8, .new 10, [6], nS), (11, .dup, [], nS), (12, .invokespecial 12, [0, 18, 1010], S_X6_init), (15, .astore_n 2, [], nS), (16, .iconst 0, [], nS), (17, .istore_n 3, [], nS), (18, .nop, [], nS)]
theorem ok_W_law_00 : okB code W_law_00 = true := by decide +kernel
theorem lk_W_law_00 (l : Launch) : LKs l RL 11 false W_law_00 := ⟨⟨_, (RX5, TX5, 8), rfl, rfl, gT_of (List.mem_of_getElem? (i := 82) (by decide +kernel)) rfl, gT_of (List.mem_of_getElem? (i := 83) (by decide +kernel)) rfl, gT_of (List.mem_of_getElem? (i := 68) (by decide +kernel)) rfl⟩, trivial, Or.inr ⟨_, _, _, _, _, _, _, rfl, c_X5_init l, yv_X5_init, by decide, gT_of (List.mem_of_getElem? (i := 84) (by decide +kernel)) rfl⟩, trivial, ⟨_, (RX6, TX6, 26), rfl, rfl, gT_of (List.mem_of_getElem? (i := 912) (by decide +kernel)) rfl, gT_of (List.mem_of_getElem? (i := 913) (by decide +kernel)) rfl, gT_of (List.mem_of_getElem? (i := 74) (by decide +kernel)) rfl⟩, trivial, Or.inr ⟨_, _, _, _, _, _, _, rfl, c_X6_init l, yv_X6_init, by decide, gT_of (List.mem_of_getElem? (i := 914) (by decide +kernel)) rfl⟩, trivial, trivial, trivial, trivial, trivial⟩
theorem swJ_all {F : Nat → Prop} : ∀ (g : List Nat) {x : Int32} {lo : Int} {P : Prop}, g ≠ [] → (∀ t ∈ g, F t) → swJ F x lo P g
  | [], _, _, _, h, _ => absurd rfl h
  | [d], _, _, _, _, h => fun _ => h d List.mem_cons_self
  | t :: e :: r, x, lo, P, _, h => ⟨fun _ => h t List.mem_cons_self, swJ_all (e :: r) (by simp) (fun u hu => h u (List.mem_cons_of_mem _ hu))⟩
theorem lw_lim {L i : Nat} (hL : L ≤ 3072) (hi : i ≤ 5000) : (Int32.ofNat L - 6 < nI i) = (L < i + 6) := by
  have e6 : (6 : Int32).toInt = 6 := by decide
  have eL : (Int32.ofNat L).toInt = L := nI_toInt (n := L) (by omega)
  rw [eq_iff_iff, lt_ti, ti_sub (by rw [eL, e6]; omega) (by rw [eL, e6]; omega), eL, e6, nI_toInt (by omega)]
  omega
/-- the law's body, from its first instruction to its end -/
theorem law_run {w : Wld} {p : Program} {l : Launch} {e : Env} {s : State} {m : MethodId} {below : List Frame} {meth : Method} {c : Code} {b L : Nat} {xs : Nat → Int32} (hL : L ≤ 3072) (X : CX w p room_1 s m #[Value.ref b] c code 4 RL 11) (hr : meth.sig.returnType = ret) (hw : w.2.1 15 = b) (hXs : va_X b L xs s s.heap) (hbl : b < s.heap.size) (hw1 : w.1 = s.heap.size) (hlocks : meth.locks = false) : M w p l e room_1 s m #[Value.ref b] below meth c 4 0 56 (lw_Z below #[Value.ref b] s) 0 Se [.ref 100015, .null, .null, .null] [] zH := by
  have hret : RtOK w p l e room_1 s m #[Value.ref b] below meth c code 4 0 56 (lw_Z below #[Value.ref b] s) (fun v _ _ => v = some (.int 1)) := by
    refine ⟨?_, ?_, ?_, ?_⟩
    rotate_left
    · intro pc S lv h x hd hq
      have hq : (some (.long x) : Option Value) = some (.int 1) := hq
      cases hq
    · intro pc S lv h x hd hq
      have hq : (some (.ref x) : Option Value) = some (.int 1) := hq
      cases hq
    · intro pc S lv h hd hq
      have hq : (none : Option Value) = some (.int 1) := hq
      cases hq
    intro pc S lv h x hd hq
    have hq : (some (.int x) : Option Value) = some (.int 1) := hq
    cases hq
    intro H locs ls hn hR hS hl hc
    refine va_forget (fun q hq => ?_) (W.widen ?_ ?_ (lw_ret X.1 X.2.1 hr hlocks hd))
    · have z := hS.2.2 q hq
      show s.heap.size ≤ q.base
      rw [← hw1]; exact z
    · have : room_1.cells = 600000 := rfl
      omega
    · have : room_1.slots = 7302250 := rfl
      omega
  have run := goL_snd (below := below) (e := e) (l := l) (meth := meth) (n0 := 0) (s0 := 56) (Q := lw_Z below #[Value.ref b] s) X hw hXs hbl hw1 (J := M w p l e room_1 s m #[Value.ref b] below meth c 4 0 56 (lw_Z below #[Value.ref b] s)) (fun _ _ _ _ _ q => q) (Rt := fun v _ _ => v = some (.int 1)) (cap := (0 + room_1.cells, 56 + room_1.slots)) (ini := false) (by omega) (by omega) (fun z => by cases z) rfl hret
  generalize hJ : M w p l e room_1 s m #[Value.ref b] below meth c 4 0 56 (lw_Z below #[Value.ref b] s) = J at *
  have loop : ∀ n i T G h, L < i + 6 * n → T + 250000 * n ≤ 800000000 → i ≤ 4000 → inv T G → simX h G → simM h G → J 18 SH0 [.ref 100015, .ref 0, .ref 64, .int (nI i)] [] h := by
    intro n
    induction n with
    | zero =>
      intro i T G h hn hT hi hI hX hM
      refine run W_law_18 ok_W_law_18 (lk_W_law_18 l) 18 rfl _ _ _ _ ?_
      simp only [W_law_18, gl_iload3, gl_aload0, gl_alen, gl_bipush, gl_isub, gl_ic_gt, capO_z, kb_6, kb_7, kb_8, kb_9, kb_10, kb_12, kb_16, kb_20, kb_21, kb_30, kb_32, kb_40, kb_48, kb_50, kb_57, kb_59, kb_60, kb_63, kb_70, kb_78, kb_81, kb_82, kb_84, kb_97, kb_99, kb_100, kb_101, kb_119, kb_120, kb_122, ki_m1, ki_0, ki_1, ki_2, ki_3, ki_4, ki_5, ki_6, ki_7, ki_8, ki_9, ki_10, ki_11, ki_12, ki_13, ki_14, ki_15, ki_16, ki_17, ki_18, ki_19, ki_20, ki_21, ki_22, ki_23, ki_24, ki_25, ki_26, ki_27, ki_28, ki_29, ki_30, ki_31, ki_32, ki_33, ki_34, ki_35, ki_36, ki_37, ki_38, ki_39, ki_40, ki_41, ki_42, ki_43, ki_44, ki_45, ki_46, ki_47, ki_48, ki_49, ki_50, ki_51, ki_52, ki_53, ki_54, ki_55, ki_56, ki_57, ki_58, ki_59, ki_60, ki_61, ki_62, ki_63, ks_m2000, ks_m1006, ks_m1005, ks_m1004, ks_m1003, ks_m1002, ks_m1000, ks_200, ks_250, ks_255, ks_256, ks_320, ks_660, ks_999, ks_1000, ks_9999, ks_12345, ne_2, ne_10, t_0, t_40, t_41, t_42, t_43, t_44, t_45, t_46, t_47, t_64, t_65, t_66, t_67, t_68, t_69, t_70, t_71, t_72, t_73, t_74, t_75, t_76, t_77, t_78, t_79, t_80, t_81, t_82, r_0_0, r_0_1, r_0_2, r_0_4, r_0_5, r_0_6, r_0_7, r_40_0, r_40_5, r_44_0, r_44_1, r_64_0, r_64_1, r_64_3, r_64_4, r_64_5, r_64_6, r_64_7, r_64_8, r_64_9, r_64_12, r_64_17, r_64_18, r_64_19, r_64_20, r_64_22, r_64_23, r_64_24, r_64_25, t_1, t_14, t_27, t_2, t_15, t_28, Nat.reduceEqDiff, ne_eq, not_false_eq_true, false_implies, true_implies, implies_true, Nat.reduceAdd, Nat.reduceLeDiff, Nat.reduceLT, Nat.reduceMul, or_true, true_or, if_true, if_false, not_true_eq_false, and_self, bF, Nat.reduceBEq, Bool.false_and, Bool.and_false, Bool.or_self, Bool.or_false, Bool.false_or, Bool.false_eq_true, Int.reduceAdd, Bool.and_self, Bool.true_and, Bool.and_true, beq_self_eq_true, not_not_, i10_, i01_, List.length_nil, List.length_cons, true_and, and_true, false_and, and_false, kl_i, kl_a, kl_n, tl_s, tl_n, lw_lim hL (show i ≤ 5000 by omega), eq_true (show L < i + 6 by omega)]
      refine run W_law_2085 ok_W_law_2085 (lk_W_law_2085 l) 2085 rfl _ _ _ _ ?_
      simp only [W_law_2085, gl_iconst, gl_iret, capO_z, kb_6, kb_7, kb_8, kb_9, kb_10, kb_12, kb_16, kb_20, kb_21, kb_30, kb_32, kb_40, kb_48, kb_50, kb_57, kb_59, kb_60, kb_63, kb_70, kb_78, kb_81, kb_82, kb_84, kb_97, kb_99, kb_100, kb_101, kb_119, kb_120, kb_122, ki_m1, ki_0, ki_1, ki_2, ki_3, ki_4, ki_5, ki_6, ki_7, ki_8, ki_9, ki_10, ki_11, ki_12, ki_13, ki_14, ki_15, ki_16, ki_17, ki_18, ki_19, ki_20, ki_21, ki_22, ki_23, ki_24, ki_25, ki_26, ki_27, ki_28, ki_29, ki_30, ki_31, ki_32, ki_33, ki_34, ki_35, ki_36, ki_37, ki_38, ki_39, ki_40, ki_41, ki_42, ki_43, ki_44, ki_45, ki_46, ki_47, ki_48, ki_49, ki_50, ki_51, ki_52, ki_53, ki_54, ki_55, ki_56, ki_57, ki_58, ki_59, ki_60, ki_61, ki_62, ki_63, ks_m2000, ks_m1006, ks_m1005, ks_m1004, ks_m1003, ks_m1002, ks_m1000, ks_200, ks_250, ks_255, ks_256, ks_320, ks_660, ks_999, ks_1000, ks_9999, ks_12345, ne_2, ne_10, t_0, t_40, t_41, t_42, t_43, t_44, t_45, t_46, t_47, t_64, t_65, t_66, t_67, t_68, t_69, t_70, t_71, t_72, t_73, t_74, t_75, t_76, t_77, t_78, t_79, t_80, t_81, t_82, r_0_0, r_0_1, r_0_2, r_0_4, r_0_5, r_0_6, r_0_7, r_40_0, r_40_5, r_44_0, r_44_1, r_64_0, r_64_1, r_64_3, r_64_4, r_64_5, r_64_6, r_64_7, r_64_8, r_64_9, r_64_12, r_64_17, r_64_18, r_64_19, r_64_20, r_64_22, r_64_23, r_64_24, r_64_25, t_1, t_14, t_27, t_2, t_15, t_28, Nat.reduceEqDiff, ne_eq, not_false_eq_true, false_implies, true_implies, implies_true, Nat.reduceAdd, Nat.reduceLeDiff, Nat.reduceLT, Nat.reduceMul, or_true, true_or, if_true, if_false, not_true_eq_false, and_self, bF, Nat.reduceBEq, Bool.false_and, Bool.and_false, Bool.or_self, Bool.or_false, Bool.false_or, Bool.false_eq_true, Int.reduceAdd, Bool.and_self, Bool.true_and, Bool.and_true, beq_self_eq_true, not_not_, i10_, i01_, List.length_nil, List.length_cons, true_and, and_true, false_and, and_false, kl_i, kl_a, kl_n, tl_s, tl_n]
    | succ n ih =>
      intro i T G h hn hT hi hI hX hM
      refine run W_law_18 ok_W_law_18 (lk_W_law_18 l) 18 rfl _ _ _ _ ?_
      by_cases q : L < i + 6
      · simp only [W_law_18, gl_iload3, gl_aload0, gl_alen, gl_bipush, gl_isub, gl_ic_gt, capO_z, kb_6, kb_7, kb_8, kb_9, kb_10, kb_12, kb_16, kb_20, kb_21, kb_30, kb_32, kb_40, kb_48, kb_50, kb_57, kb_59, kb_60, kb_63, kb_70, kb_78, kb_81, kb_82, kb_84, kb_97, kb_99, kb_100, kb_101, kb_119, kb_120, kb_122, ki_m1, ki_0, ki_1, ki_2, ki_3, ki_4, ki_5, ki_6, ki_7, ki_8, ki_9, ki_10, ki_11, ki_12, ki_13, ki_14, ki_15, ki_16, ki_17, ki_18, ki_19, ki_20, ki_21, ki_22, ki_23, ki_24, ki_25, ki_26, ki_27, ki_28, ki_29, ki_30, ki_31, ki_32, ki_33, ki_34, ki_35, ki_36, ki_37, ki_38, ki_39, ki_40, ki_41, ki_42, ki_43, ki_44, ki_45, ki_46, ki_47, ki_48, ki_49, ki_50, ki_51, ki_52, ki_53, ki_54, ki_55, ki_56, ki_57, ki_58, ki_59, ki_60, ki_61, ki_62, ki_63, ks_m2000, ks_m1006, ks_m1005, ks_m1004, ks_m1003, ks_m1002, ks_m1000, ks_200, ks_250, ks_255, ks_256, ks_320, ks_660, ks_999, ks_1000, ks_9999, ks_12345, ne_2, ne_10, t_0, t_40, t_41, t_42, t_43, t_44, t_45, t_46, t_47, t_64, t_65, t_66, t_67, t_68, t_69, t_70, t_71, t_72, t_73, t_74, t_75, t_76, t_77, t_78, t_79, t_80, t_81, t_82, r_0_0, r_0_1, r_0_2, r_0_4, r_0_5, r_0_6, r_0_7, r_40_0, r_40_5, r_44_0, r_44_1, r_64_0, r_64_1, r_64_3, r_64_4, r_64_5, r_64_6, r_64_7, r_64_8, r_64_9, r_64_12, r_64_17, r_64_18, r_64_19, r_64_20, r_64_22, r_64_23, r_64_24, r_64_25, t_1, t_14, t_27, t_2, t_15, t_28, Nat.reduceEqDiff, ne_eq, not_false_eq_true, false_implies, true_implies, implies_true, Nat.reduceAdd, Nat.reduceLeDiff, Nat.reduceLT, Nat.reduceMul, or_true, true_or, if_true, if_false, not_true_eq_false, and_self, bF, Nat.reduceBEq, Bool.false_and, Bool.and_false, Bool.or_self, Bool.or_false, Bool.false_or, Bool.false_eq_true, Int.reduceAdd, Bool.and_self, Bool.true_and, Bool.and_true, beq_self_eq_true, not_not_, i10_, i01_, List.length_nil, List.length_cons, true_and, and_true, false_and, and_false, kl_i, kl_a, kl_n, tl_s, tl_n, lw_lim hL (show i ≤ 5000 by omega), eq_true q]
        refine run W_law_2085 ok_W_law_2085 (lk_W_law_2085 l) 2085 rfl _ _ _ _ ?_
        simp only [W_law_2085, gl_iconst, gl_iret, capO_z, kb_6, kb_7, kb_8, kb_9, kb_10, kb_12, kb_16, kb_20, kb_21, kb_30, kb_32, kb_40, kb_48, kb_50, kb_57, kb_59, kb_60, kb_63, kb_70, kb_78, kb_81, kb_82, kb_84, kb_97, kb_99, kb_100, kb_101, kb_119, kb_120, kb_122, ki_m1, ki_0, ki_1, ki_2, ki_3, ki_4, ki_5, ki_6, ki_7, ki_8, ki_9, ki_10, ki_11, ki_12, ki_13, ki_14, ki_15, ki_16, ki_17, ki_18, ki_19, ki_20, ki_21, ki_22, ki_23, ki_24, ki_25, ki_26, ki_27, ki_28, ki_29, ki_30, ki_31, ki_32, ki_33, ki_34, ki_35, ki_36, ki_37, ki_38, ki_39, ki_40, ki_41, ki_42, ki_43, ki_44, ki_45, ki_46, ki_47, ki_48, ki_49, ki_50, ki_51, ki_52, ki_53, ki_54, ki_55, ki_56, ki_57, ki_58, ki_59, ki_60, ki_61, ki_62, ki_63, ks_m2000, ks_m1006, ks_m1005, ks_m1004, ks_m1003, ks_m1002, ks_m1000, ks_200, ks_250, ks_255, ks_256, ks_320, ks_660, ks_999, ks_1000, ks_9999, ks_12345, ne_2, ne_10, t_0, t_40, t_41, t_42, t_43, t_44, t_45, t_46, t_47, t_64, t_65, t_66, t_67, t_68, t_69, t_70, t_71, t_72, t_73, t_74, t_75, t_76, t_77, t_78, t_79, t_80, t_81, t_82, r_0_0, r_0_1, r_0_2, r_0_4, r_0_5, r_0_6, r_0_7, r_40_0, r_40_5, r_44_0, r_44_1, r_64_0, r_64_1, r_64_3, r_64_4, r_64_5, r_64_6, r_64_7, r_64_8, r_64_9, r_64_12, r_64_17, r_64_18, r_64_19, r_64_20, r_64_22, r_64_23, r_64_24, r_64_25, t_1, t_14, t_27, t_2, t_15, t_28, Nat.reduceEqDiff, ne_eq, not_false_eq_true, false_implies, true_implies, implies_true, Nat.reduceAdd, Nat.reduceLeDiff, Nat.reduceLT, Nat.reduceMul, or_true, true_or, if_true, if_false, not_true_eq_false, and_self, bF, Nat.reduceBEq, Bool.false_and, Bool.and_false, Bool.or_self, Bool.or_false, Bool.false_or, Bool.false_eq_true, Int.reduceAdd, Bool.and_self, Bool.true_and, Bool.and_true, beq_self_eq_true, not_not_, i10_, i01_, List.length_nil, List.length_cons, true_and, and_true, false_and, and_false, kl_i, kl_a, kl_n, tl_s, tl_n]
      · have kk : lwG J i T := fun G2 h2 hI2 hX2 hM2 => by
          refine run W_law_2079 ok_W_law_2079 (lk_W_law_2079 l) 2079 rfl _ _ _ _ ?_
          simp only [W_law_2079, gl_iinc3, gl_goto, capO_z, kb_6, kb_7, kb_8, kb_9, kb_10, kb_12, kb_16, kb_20, kb_21, kb_30, kb_32, kb_40, kb_48, kb_50, kb_57, kb_59, kb_60, kb_63, kb_70, kb_78, kb_81, kb_82, kb_84, kb_97, kb_99, kb_100, kb_101, kb_119, kb_120, kb_122, ki_m1, ki_0, ki_1, ki_2, ki_3, ki_4, ki_5, ki_6, ki_7, ki_8, ki_9, ki_10, ki_11, ki_12, ki_13, ki_14, ki_15, ki_16, ki_17, ki_18, ki_19, ki_20, ki_21, ki_22, ki_23, ki_24, ki_25, ki_26, ki_27, ki_28, ki_29, ki_30, ki_31, ki_32, ki_33, ki_34, ki_35, ki_36, ki_37, ki_38, ki_39, ki_40, ki_41, ki_42, ki_43, ki_44, ki_45, ki_46, ki_47, ki_48, ki_49, ki_50, ki_51, ki_52, ki_53, ki_54, ki_55, ki_56, ki_57, ki_58, ki_59, ki_60, ki_61, ki_62, ki_63, ks_m2000, ks_m1006, ks_m1005, ks_m1004, ks_m1003, ks_m1002, ks_m1000, ks_200, ks_250, ks_255, ks_256, ks_320, ks_660, ks_999, ks_1000, ks_9999, ks_12345, ne_2, ne_10, t_0, t_40, t_41, t_42, t_43, t_44, t_45, t_46, t_47, t_64, t_65, t_66, t_67, t_68, t_69, t_70, t_71, t_72, t_73, t_74, t_75, t_76, t_77, t_78, t_79, t_80, t_81, t_82, r_0_0, r_0_1, r_0_2, r_0_4, r_0_5, r_0_6, r_0_7, r_40_0, r_40_5, r_44_0, r_44_1, r_64_0, r_64_1, r_64_3, r_64_4, r_64_5, r_64_6, r_64_7, r_64_8, r_64_9, r_64_12, r_64_17, r_64_18, r_64_19, r_64_20, r_64_22, r_64_23, r_64_24, r_64_25, t_1, t_14, t_27, t_2, t_15, t_28, Nat.reduceEqDiff, ne_eq, not_false_eq_true, false_implies, true_implies, implies_true, Nat.reduceAdd, Nat.reduceLeDiff, Nat.reduceLT, Nat.reduceMul, or_true, true_or, if_true, if_false, not_true_eq_false, and_self, bF, Nat.reduceBEq, Bool.false_and, Bool.and_false, Bool.or_self, Bool.or_false, Bool.false_or, Bool.false_eq_true, Int.reduceAdd, Bool.and_self, Bool.true_and, Bool.and_true, beq_self_eq_true, not_not_, i10_, i01_, List.length_nil, List.length_cons, true_and, and_true, false_and, and_false, kl_i, kl_a, kl_n, tl_s, tl_n, nI_s6]
          exact ih (i + 6) (T + 250000) G2 h2 (by omega) (by omega) (by omega) hI2 hX2 hM2
        have hi6 : i + 6 ≤ L := by omega
        have hb : T ≤ 800000000 := by omega
        simp only [W_law_18, gl_iload3, gl_aload0, gl_alen, gl_bipush, gl_isub, gl_ic_gt, gl_iaload, gl_iand, gl_tsw, capO_z, kb_6, kb_7, kb_8, kb_9, kb_10, kb_12, kb_16, kb_20, kb_21, kb_30, kb_32, kb_40, kb_48, kb_50, kb_57, kb_59, kb_60, kb_63, kb_70, kb_78, kb_81, kb_82, kb_84, kb_97, kb_99, kb_100, kb_101, kb_119, kb_120, kb_122, ki_m1, ki_0, ki_1, ki_2, ki_3, ki_4, ki_5, ki_6, ki_7, ki_8, ki_9, ki_10, ki_11, ki_12, ki_13, ki_14, ki_15, ki_16, ki_17, ki_18, ki_19, ki_20, ki_21, ki_22, ki_23, ki_24, ki_25, ki_26, ki_27, ki_28, ki_29, ki_30, ki_31, ki_32, ki_33, ki_34, ki_35, ki_36, ki_37, ki_38, ki_39, ki_40, ki_41, ki_42, ki_43, ki_44, ki_45, ki_46, ki_47, ki_48, ki_49, ki_50, ki_51, ki_52, ki_53, ki_54, ki_55, ki_56, ki_57, ki_58, ki_59, ki_60, ki_61, ki_62, ki_63, ks_m2000, ks_m1006, ks_m1005, ks_m1004, ks_m1003, ks_m1002, ks_m1000, ks_200, ks_250, ks_255, ks_256, ks_320, ks_660, ks_999, ks_1000, ks_9999, ks_12345, ne_2, ne_10, t_0, t_40, t_41, t_42, t_43, t_44, t_45, t_46, t_47, t_64, t_65, t_66, t_67, t_68, t_69, t_70, t_71, t_72, t_73, t_74, t_75, t_76, t_77, t_78, t_79, t_80, t_81, t_82, r_0_0, r_0_1, r_0_2, r_0_4, r_0_5, r_0_6, r_0_7, r_40_0, r_40_5, r_44_0, r_44_1, r_64_0, r_64_1, r_64_3, r_64_4, r_64_5, r_64_6, r_64_7, r_64_8, r_64_9, r_64_12, r_64_17, r_64_18, r_64_19, r_64_20, r_64_22, r_64_23, r_64_24, r_64_25, t_1, t_14, t_27, t_2, t_15, t_28, Nat.reduceEqDiff, ne_eq, not_false_eq_true, false_implies, true_implies, implies_true, Nat.reduceAdd, Nat.reduceLeDiff, Nat.reduceLT, Nat.reduceMul, or_true, true_or, if_true, if_false, not_true_eq_false, and_self, bF, Nat.reduceBEq, Bool.false_and, Bool.and_false, Bool.or_self, Bool.or_false, Bool.false_or, Bool.false_eq_true, Int.reduceAdd, Bool.and_self, Bool.true_and, Bool.and_true, beq_self_eq_true, not_not_, i10_, i01_, List.length_nil, List.length_cons, true_and, and_true, false_and, and_false, kl_i, kl_a, kl_n, tl_s, tl_n, lw_lim hL (show i ≤ 5000 by omega), eq_false q, vpN (show i < L by omega) (show L < 2147483648 by omega), nI_clamp (show i < 2 ^ 31 by omega)]
        refine swJ_all _ (by simp) (fun t ht => ?_)
        simp only [List.mem_cons, List.not_mem_nil, or_false] at ht
        rcases ht with rfl | rfl | rfl | rfl | rfl | rfl | rfl | rfl | rfl | rfl | rfl | rfl | rfl | rfl | rfl | rfl | rfl | rfl | rfl | rfl | rfl | rfl | rfl | rfl | rfl | rfl | rfl | rfl | rfl | rfl | rfl | rfl | rfl | rfl | rfl | rfl | rfl | rfl | rfl | rfl | rfl | rfl | rfl | rfl | rfl | rfl | rfl | rfl | rfl | rfl | rfl | rfl | rfl | rfl | rfl | rfl | rfl | rfl | rfl | rfl | rfl
        · exact run W_law_288 ok_W_law_288 (lk_W_law_288 l) 288 rfl _ _ _ _ (k_row hL hi6 hI hb hX hM kk)
        · exact run W_law_331 ok_W_law_331 (lk_W_law_331 l) 331 rfl _ _ _ _ (k_set hL hi6 hI hb hX hM kk)
        · exact run W_law_404 ok_W_law_404 (lk_W_law_404 l) 404 rfl _ _ _ _ (k_copy hL hi6 hI hb hX hM kk)
        · exact run W_law_467 ok_W_law_467 (lk_W_law_467 l) 467 rfl _ _ _ _ (k_element hL hi6 hI hb hX hM kk)
        · exact run W_law_501 ok_W_law_501 (lk_W_law_501 l) 501 rfl _ _ _ _ (k_holds hL hi6 hI hb hX hM kk)
        · exact run W_law_524 ok_W_law_524 (lk_W_law_524 l) 524 rfl _ _ _ _ (k_show hL hi6 hI hb hX hM kk)
        · exact run W_law_557 ok_W_law_557 (lk_W_law_557 l) 557 rfl _ _ _ _ (k_says hL hi6 hI hb hX hM kk)
        · exact run W_law_590 ok_W_law_590 (lk_W_law_590 l) 590 rfl _ _ _ _ (k_tell hL hi6 hI hb hX hM kk)
        · exact run W_law_623 ok_W_law_623 (lk_W_law_623 l) 623 rfl _ _ _ _ (k_joy hL hi6 hI hb hX hM kk)
        · exact run W_law_656 ok_W_law_656 (lk_W_law_656 l) 656 rfl _ _ _ _ (k_feed hL hi6 hI hb hX hM kk)
        · exact run W_law_679 ok_W_law_679 (lk_W_law_679 l) 679 rfl _ _ _ _ (k_wipe hL hi6 hI hb hX hM kk)
        · exact run W_law_692 ok_W_law_692 (lk_W_law_692 l) 692 rfl _ _ _ _ (k_store hL hi6 hI hb hX hM kk)
        · exact run W_law_705 ok_W_law_705 (lk_W_law_705 l) 705 rfl _ _ _ _ (k_heirOf hL hi6 hI hb hX hM kk)
        · exact run W_law_738 ok_W_law_738 (lk_W_law_738 l) 738 rfl _ _ _ _ (k_joyOf hL hi6 hI hb hX hM kk)
        · exact run W_law_761 ok_W_law_761 (lk_W_law_761 l) 761 rfl _ _ _ _ (k_uses hL hi6 hI hb hX hM kk)
        · exact run W_law_794 ok_W_law_794 (lk_W_law_794 l) 794 rfl _ _ _ _ (k_gets hL hi6 hI hb hX hM kk)
        · exact run W_law_817 ok_W_law_817 (lk_W_law_817 l) 817 rfl _ _ _ _ (k_ahead hL hi6 hI hb hX hM kk)
        · exact run W_law_850 ok_W_law_850 (lk_W_law_850 l) 850 rfl _ _ _ _ (k_later hL hi6 hI hb hX hM kk)
        · exact run W_law_893 ok_W_law_893 (lk_W_law_893 l) 893 rfl _ _ _ _ (k_out hL hi6 hI hb hX hM kk)
        · exact run W_law_906 ok_W_law_906 (lk_W_law_906 l) 906 rfl _ _ _ _ (k_longest hL hi6 hI hb hX hM kk)
        · exact run W_law_919 ok_W_law_919 (lk_W_law_919 l) 919 rfl _ _ _ _ (k_happiest hL hi6 hI hb hX hM kk)
        · exact run W_law_952 ok_W_law_952 (lk_W_law_952 l) 952 rfl _ _ _ _ (k_fair hL hi6 hI hb hX hM kk)
        · exact run W_law_975 ok_W_law_975 (lk_W_law_975 l) 975 rfl _ _ _ _ (k_better hL hi6 hI hb hX hM kk)
        · exact run W_law_998 ok_W_law_998 (lk_W_law_998 l) 998 rfl _ _ _ _ (k_spared hL hi6 hI hb hX hM kk)
        · exact run W_law_1011 ok_W_law_1011 (lk_W_law_1011 l) 1011 rfl _ _ _ _ (k_part hL hi6 hI hb hX hM kk)
        · exact run W_law_1034 ok_W_law_1034 (lk_W_law_1034 l) 1034 rfl _ _ _ _ (k_line hL hi6 hI hb hX hM kk)
        · exact run W_law_1057 ok_W_law_1057 (lk_W_law_1057 l) 1057 rfl _ _ _ _ (k_kin hL hi6 hI hb hX hM kk)
        · exact run W_law_1090 ok_W_law_1090 (lk_W_law_1090 l) 1090 rfl _ _ _ _ (k_under hL hi6 hI hb hX hM kk)
        · exact run W_law_1113 ok_W_law_1113 (lk_W_law_1113 l) 1113 rfl _ _ _ _ (k_was hL hi6 hI hb hX hM kk)
        · exact run W_law_1156 ok_W_law_1156 (lk_W_law_1156 l) 1156 rfl _ _ _ _ (k_mayBe hL hi6 hI hb hX hM kk)
        · exact run W_law_1199 ok_W_law_1199 (lk_W_law_1199 l) 1199 rfl _ _ _ _ (k_made hL hi6 hI hb hX hM kk)
        · exact run W_law_1222 ok_W_law_1222 (lk_W_law_1222 l) 1222 rfl _ _ _ _ (k_best hL hi6 hI hb hX hM kk)
        · exact run W_law_1245 ok_W_law_1245 (lk_W_law_1245 l) 1245 rfl _ _ _ _ (k_last hL hi6 hI hb hX hM kk)
        · exact run W_law_1288 ok_W_law_1288 (lk_W_law_1288 l) 1288 rfl _ _ _ _ (k_odds hL hi6 hI hb hX hM kk)
        · exact run W_law_1331 ok_W_law_1331 (lk_W_law_1331 l) 1331 rfl _ _ _ _ (k_fits hL hi6 hI hb hX hM kk)
        · exact run W_law_1384 ok_W_law_1384 (lk_W_law_1384 l) 1384 rfl _ _ _ _ (k_when hL hi6 hI hb hX hM kk)
        · exact run W_law_1417 ok_W_law_1417 (lk_W_law_1417 l) 1417 rfl _ _ _ _ (k_who hL hi6 hI hb hX hM kk)
        · exact run W_law_1440 ok_W_law_1440 (lk_W_law_1440 l) 1440 rfl _ _ _ _ (k_rich hL hi6 hI hb hX hM kk)
        · exact run W_law_1463 ok_W_law_1463 (lk_W_law_1463 l) 1463 rfl _ _ _ _ (k_needs hL hi6 hI hb hX hM kk)
        · exact run W_law_1486 ok_W_law_1486 (lk_W_law_1486 l) 1486 rfl _ _ _ _ (k_most hL hi6 hI hb hX hM kk)
        · exact run W_law_1499 ok_W_law_1499 (lk_W_law_1499 l) 1499 rfl _ _ _ _ (k_feast hL hi6 hI hb hX hM kk)
        · exact run W_law_1532 ok_W_law_1532 (lk_W_law_1532 l) 1532 rfl _ _ _ _ (k_steps hL hi6 hI hb hX hM kk)
        · exact run W_law_1565 ok_W_law_1565 (lk_W_law_1565 l) 1565 rfl _ _ _ _ (k_share hL hi6 hI hb hX hM kk)
        · exact run W_law_1598 ok_W_law_1598 (lk_W_law_1598 l) 1598 rfl _ _ _ _ (k_eldest hL hi6 hI hb hX hM kk)
        · exact run W_law_1621 ok_W_law_1621 (lk_W_law_1621 l) 1621 rfl _ _ _ _ (k_leaves hL hi6 hI hb hX hM kk)
        · exact run W_law_1654 ok_W_law_1654 (lk_W_law_1654 l) 1654 rfl _ _ _ _ (k_fairest hL hi6 hI hb hX hM kk)
        · exact run W_law_1677 ok_W_law_1677 (lk_W_law_1677 l) 1677 rfl _ _ _ _ (k_merriest hL hi6 hI hb hX hM kk)
        · exact run W_law_1710 ok_W_law_1710 (lk_W_law_1710 l) 1710 rfl _ _ _ _ (k_dry hL hi6 hI hb hX hM kk)
        · exact run W_law_1733 ok_W_law_1733 (lk_W_law_1733 l) 1733 rfl _ _ _ _ (k_likely hL hi6 hI hb hX hM kk)
        · exact run W_law_1776 ok_W_law_1776 (lk_W_law_1776 l) 1776 rfl _ _ _ _ (k_ask hL hi6 hI hb hX hM kk)
        · exact run W_law_1809 ok_W_law_1809 (lk_W_law_1809 l) 1809 rfl _ _ _ _ (k_ofKind hL hi6 hI hb hX hM kk)
        · exact run W_law_1832 ok_W_law_1832 (lk_W_law_1832 l) 1832 rfl _ _ _ _ (k_judge hL hi6 hI hb hX hM kk)
        · exact run W_law_1865 ok_W_law_1865 (lk_W_law_1865 l) 1865 rfl _ _ _ _ (k_born hL hi6 hI hb hX hM kk)
        · exact run W_law_1918 ok_W_law_1918 (lk_W_law_1918 l) 1918 rfl _ _ _ _ (k_gives hL hi6 hI hb hX hM kk)
        · exact run W_law_1961 ok_W_law_1961 (lk_W_law_1961 l) 1961 rfl _ _ _ _ (k_years hL hi6 hI hb hX hM kk)
        · exact run W_law_1984 ok_W_law_1984 (lk_W_law_1984 l) 1984 rfl _ _ _ _ (k_drawn hL hi6 hI hb hX hM kk)
        · exact run W_law_2007 ok_W_law_2007 (lk_W_law_2007 l) 2007 rfl _ _ _ _ (k_seed hL hi6 hI hb hX hM kk)
        · exact run W_law_2030 ok_W_law_2030 (lk_W_law_2030 l) 2030 rfl _ _ _ _ (k_image hL hi6 hI hb hX hM kk)
        · exact run W_law_2043 ok_W_law_2043 (lk_W_law_2043 l) 2043 rfl _ _ _ _ (k_back hL hi6 hI hb hX hM kk)
        · exact run W_law_2056 ok_W_law_2056 (lk_W_law_2056 l) 2056 rfl _ _ _ _ (k_status hL hi6 hI hb hX hM kk)
        · exact kk G h (inv_q hI) hX hM
  refine run W_law_00 ok_W_law_00 (lk_W_law_00 l) 0 rfl _ _ _ _ ?_
  have hS1 : nwS Se 5 0 8 = S1 := rfl
  have hH1 : zA zH 0 = H1 := rfl
  have hS6 : nwS (slS 8) 6 0 26 = S6 := rfl
  have hH6 : zA (slH 8) 64 = H6 := rfl
  have w0 : nC Se = 0 := rfl
  have c0 : sC Se = 56 := rfl
  have w8 : nC (slS 8) = 64 := w_sl 8
  have c8 : sC (slS 8) = 984 := c_sl 8
  have rc : room_1.cells = 600000 := rfl
  have rs : room_1.slots = 7302250 := rfl
  have start := loop 513 0 660 G0 HF (by omega) (by omega) (by omega) inv_G0 simX_0 simM_0
  simp only [W_law_00, gl_new, gl_dup, gl_callI, gl_astore1, gl_astore2, gl_istore3, gl_iconst, gl_nop, e_X5_init, e_X6_init, capO_z, kb_6, kb_7, kb_8, kb_9, kb_10, kb_12, kb_16, kb_20, kb_21, kb_30, kb_32, kb_40, kb_48, kb_50, kb_57, kb_59, kb_60, kb_63, kb_70, kb_78, kb_81, kb_82, kb_84, kb_97, kb_99, kb_100, kb_101, kb_119, kb_120, kb_122, ki_m1, ki_0, ki_1, ki_2, ki_3, ki_4, ki_5, ki_6, ki_7, ki_8, ki_9, ki_10, ki_11, ki_12, ki_13, ki_14, ki_15, ki_16, ki_17, ki_18, ki_19, ki_20, ki_21, ki_22, ki_23, ki_24, ki_25, ki_26, ki_27, ki_28, ki_29, ki_30, ki_31, ki_32, ki_33, ki_34, ki_35, ki_36, ki_37, ki_38, ki_39, ki_40, ki_41, ki_42, ki_43, ki_44, ki_45, ki_46, ki_47, ki_48, ki_49, ki_50, ki_51, ki_52, ki_53, ki_54, ki_55, ki_56, ki_57, ki_58, ki_59, ki_60, ki_61, ki_62, ki_63, ks_m2000, ks_m1006, ks_m1005, ks_m1004, ks_m1003, ks_m1002, ks_m1000, ks_200, ks_250, ks_255, ks_256, ks_320, ks_660, ks_999, ks_1000, ks_9999, ks_12345, ne_2, ne_10, t_0, t_40, t_41, t_42, t_43, t_44, t_45, t_46, t_47, t_64, t_65, t_66, t_67, t_68, t_69, t_70, t_71, t_72, t_73, t_74, t_75, t_76, t_77, t_78, t_79, t_80, t_81, t_82, r_0_0, r_0_1, r_0_2, r_0_4, r_0_5, r_0_6, r_0_7, r_40_0, r_40_5, r_44_0, r_44_1, r_64_0, r_64_1, r_64_3, r_64_4, r_64_5, r_64_6, r_64_7, r_64_8, r_64_9, r_64_12, r_64_17, r_64_18, r_64_19, r_64_20, r_64_22, r_64_23, r_64_24, r_64_25, t_1, t_14, t_27, t_2, t_15, t_28, Nat.reduceEqDiff, ne_eq, not_false_eq_true, false_implies, true_implies, implies_true, Nat.reduceAdd, Nat.reduceLeDiff, Nat.reduceLT, Nat.reduceMul, or_true, true_or, if_true, if_false, not_true_eq_false, and_self, bF, Nat.reduceBEq, Bool.false_and, Bool.and_false, Bool.or_self, Bool.or_false, Bool.false_or, Bool.false_eq_true, Int.reduceAdd, Bool.and_self, Bool.true_and, Bool.and_true, beq_self_eq_true, not_not_, i10_, i01_, List.length_nil, List.length_cons, true_and, and_true, false_and, and_false, kl_i, kl_a, kl_n, tl_s, tl_n, w0, c0, w8, c8, hS1, hH1, hS6, hH6, w_S1, c_S1, y_S1, w_S6, c_S6, y_S6, capO, rc, rs, kl_i, kl_a, kl_n, tl_n, tl_s, show nF 5 = 8 from rfl, show nF 6 = 26 from rfl, m6_e]
  exact start
/-- YOUR PART: from the entry, for every script of at most 3072 ints, the law comes to its end with true ('hflags': the launch's flags, for a law that throws: no stack traces) -/
theorem whole_start {p : Program} {e : Env} {s : State} {m : MethodId} {below : List Frame} {meth : Method} {c : Code} (l : Launch) (hflags : l.flags = flags0) {b L : Nat} {xs : Nat → Int32} (hL : L ≤ 3072) (C0 : lw_At p s m meth c b L xs) : W p l e room_1 s m #[Value.ref b] below meth c s.heap [] 0 0 (lw_Z below #[Value.ref b] s) (entryFrame m ([Value.ref b] : List Value).toArray 4) := by
  obtain ⟨hx, hb, hr, hml, hown, hts, hX, hbl, hlocks, hgv⟩ := id C0
  obtain ⟨w, hw1, hw, hK⟩ := kn_start b hts hgv
  have hg : ∀ u ∈ gT, u.before #[Value.ref b] s = true := fun u hu => hts u (List.mem_filter.mp hu).1
  have Xc : CX w p room_1 s m #[Value.ref b] c code 4 RL 11 := ⟨hx, hb, hml, hown, hg, hK, by omega, by decide, by decide⟩
  have hl := lv_entry ([.ref b]) (n := 4) (Nat.le_of_ble_eq_true rfl)
  rw [lg_entry_eq]
  generalize (lg_sl ([.ref b]) ++ List.replicate (4 - (lg_sl ([.ref b])).length) Slot.unset).toArray = ls at hl ⊢
  have hl : lv_has ls 4 (lvs w 0 [.ref 100015, .null, .null, .null]) := by
    have tb : tv w (.ref 100015) = .ref b := by
      show Value.ref (ad w 100015) = _
      unfold ad
      rw [if_neg (by omega)]
      exact congrArg Value.ref hw
    show lv_has ls 4 [(0, tv w (.ref 100015))]
    rw [tb]
    exact hl
  have hM := law_run (l := l) (e := e) (below := below) hL Xc hr hw hX hbl hw1 hlocks s.heap [] ls rfl ⟨by rw [hw1]; rfl, by decide, fun c hc => absurd rfl hc, fun k q h => by simp [wsO, nC, Se] at h⟩ va_S.rf hl ⟨by decide, by decide, by decide, by decide⟩
  exact hM
-- ===== YOUR PART ENDS =====
set_option maxHeartbeats 4000000 in
theorem lw_walk (l : Launch) (hflags : l.flags = flags0) (b : Addr) (xs : List Int32) : MetFree l x (headSpec (Jvm.Cond.code x code maxLocals ret :: tables_1) room_1) (lw_P b xs) (fun _ _ _ _ _ => True) lw_Q := by
  refine MetFree.of_bodyS (code := code) (maxLocals := maxLocals) (ret := ret) (by decide) ?_ ?_
  · intro args s m h hn
    obtain ⟨meth, c, h1, h2, h3, h4, h5, h6, -, -⟩ := Cond.code_spec hn (atoms_spec (ws := Jvm.Cond.code x code maxLocals ret :: tables_1) h _ List.mem_cons_self)
    exact ⟨meth, c, h1, h2, h3, h4, h5, h6⟩
  · intro p e s m args below meth c s₁ B hml0 hP _
    obtain ⟨rfl, hx, hbd, hgv⟩ := hP
    obtain ⟨scr, harrAt, hlist, hof, hsmall⟩ := hx
    obtain ⟨hcb, hkn, -, -⟩ := State.arrayAt?_spec harrAt
    have hown : s.vm.findClass R_law = some m.cls := findClass_of_methodNamed B.named
    have hts0 : ∀ c ∈ (Jvm.Cond.code x code maxLocals ret :: tables_1), c.before #[Value.ref b] s = true := atoms_spec (ws := Jvm.Cond.code x code maxLocals ret :: tables_1) B.pre
    have hts : ∀ w ∈ lw_tbl, w.before #[Value.ref b] s = true := k2_hts_sels lw_privs (fun w hw => hts0 w (List.mem_cons_of_mem _ hw)) lw_privs_ok
    have hml : c.maxLocals = 4 := B.maxLocals_eq (hts0 _ List.mem_cons_self)
    have X₀ : Stand p l e room_1 s m #[Value.ref b] below meth c s₁ [] 0 0 := Stand.of_body B
    have hh0 : s₁.heap = s.heap := by rw [B.state]; rfl
    have hsz : scr.slots.size = xs.length := by rw [← Array.length_toList, hlist, List.length_map]
    have hval : ∀ j : Nat, j < xs.length → scr.slots[j]? = some (.int (xs.getD j 0)) := fun j hj => by
      rw [← Array.getElem?_toList, hlist]
      simp [hj]
    have hbl : b < s.heap.size := (Array.getElem?_eq_some_iff.mp hcb).1
    have hX : va_X b xs.length (fun j => xs.getD j 0) s s.heap := ⟨scr, hcb, hof, hkn, hsz, hval⟩
    have K : W p l e room_1 s m #[Value.ref b] below meth c s₁.heap [] 0 0 (lw_Z below #[Value.ref b] s) (entryFrame m ([Value.ref b] : List Value).toArray 4) := by
      rw [hh0]
      exact whole_start l hflags hbd ⟨B.exec, B.bytes, B.returns, hml, hown, hts, hX, hbl, B.notSynchronized, hgv⟩
    obtain ⟨t, a1, o, b1, b2, b3⟩ := K s₁ rfl X₀
    exact ⟨t, o, a1, b1, b2, b3⟩
theorem lw_pre_spec {args : Array Value} {s : State} (h : (Jvm.Cond.and given_1 narrow_1).before args s = true) (hr : rest_1_c.before args s = true) : ∃ (b : Addr) (xs : List Int32), lw_P b xs args s := by
  have hs := flat_of_before _ h
  have hq := flat_of_before _ hr
  have hc : (Cond.count 1).before args s = true := hs _ (by decide +kernel)
  have harr : (Cond.arrayOf (.arg 0) .int).before args s = true := hs _ (by decide +kernel)
  have hle : (Cond.le (.length (.arg 0)) (.int 3072)).before args s = true := hs _ (by decide +kernel)
  have hlen : (Cond.isInt (.length (.arg 0))).before args s = true := hq _ (by decide +kernel)
  have hall : (Cond.all (.arg 0) (.isInt (.elem (.arg 0) (.index 0)))).before args s = true := hq _ (by decide +kernel)
  obtain ⟨b, xs, hb, hx⟩ := State.ints_of_pre rfl harr hlen hall
  have hsm : xs.length < 2 ^ 31 := hx.choose_spec.2.2.2
  have hev : (Term.length (.arg 0)).eval args s none [] s = some (.int xs.length.toInt32) := hx.length_eval hb
  have hv := Cond.le_ints hev (show (Term.int 3072).eval args s none [] s = some (.int 3072) from rfl)
  have hd : xs.length.toInt32 ≤ 3072 := by
    simpa [Cond.before, Cond.holds, hv] using hle
  have hN : xs.length ≤ 3072 := (Int32.ofNat_le_ofNat hsm (by decide)).mp (show Int32.ofNat xs.length ≤ Int32.ofNat 3072 from hd)
  exact ⟨b, xs, Cond.one_arg hc (show args[0]? = some (.ref b) from hb), hx, hN, h⟩
theorem lw_comes (l : Launch) (hflags : l.flags = flags0) : Comes l x (Jvm.Cond.code x code maxLocals ret :: tables_1) room_1 (fun tb e args s => Calls_1 tb e args s ∧ rest_1 tb e args s ∧ Pre_1 tb e args s)
    (fun _ _ args s o t => lw_Q args s o t) := by
  intro p e ha hc hk s m args below hf hfit hheap happ hpre
  obtain ⟨b, xs, hP⟩ := lw_pre_spec hpre.2.2 hpre.2.1
  obtain ⟨k, o, h1, h2, h3, hQ⟩ := lw_walk l hflags b xs p e ha hc hk s m args below hf ((Spec.applies_iff_loose hf).mp happ).1 hP trivial
  exact ⟨k, o, h1, h2, h3, hQ⟩
theorem lw_frame {s t : State} {o : Outcome} {args : Array Value} (h : Framed s o t [] 600000 7302250) :
    Framed s o t (fieldLocs frame_1_writes args s ++ arrayLocs frame_1_arrays args s ++ staticLocs frame_1_statics s) 600000 7302250 := h
theorem lw_limb (L : Cond) (hL : ∀ (args : Array Value) (s t : State), L.after args s (.returned (some (.int 1))) t = true) :
    ArmFor flags0 classFile x code maxLocals ret World_1 tables_1 room_1 Calls_1 rest_1 Pre_1
      (fun tb e a s o t => postC L tb e a s o t ∧ Framed s o t (fieldLocs frame_1_writes a s ++ arrayLocs frame_1_arrays a s ++ staticLocs frame_1_statics s) 600000 7302250) := by
  intro l hflags _ _ p e ha hc hk s m args below hf hfit hheap happ hpre
  obtain ⟨k, o, h1, h2, h3, rfl, hF⟩ := lw_comes l hflags p e ha hc hk s m args below hf hfit hheap happ hpre
  exact ⟨k, _, h1, h2, h3, hL args s _, lw_frame hF⟩
theorem i_vc : Claimed_1_1 ∧ Claimed_1_2 := ⟨lw_limb limb_1_1 (fun args s t => by simp [limb_1_1, Cond.after, Cond.holds, Cond.value]), lw_limb limb_1_2 (fun args s t => Cond.after_iff.mpr (by
  first | (rw [show limb_1_2 = Cond.eq .result (.int 1) from rfl, Cond.eq_ints (x := 1) (y := 1) rfl rfl]; simp; done) | (simp [limb_1_2, Cond.value, Term.eval]; done)))⟩
