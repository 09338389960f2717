variable {nn : Nat}
/-! ===== texts: what the class String does with the seven literals ===== -/
/-- a contract out of M, step by step -/
theorem Ct_mkM {l : Launch} {lev mc ms maxL : Nat} {y : MethodName} {cc : ByteArray} {ret : Option FieldType} {Sp : SpT} (hy : plainName y.cls = true)
    (hH : ∀ (S : SpS) (as : List Value) (h : AH) (K : Option Value → SpS → AH → Prop), Sp S as h K → slotsN as ≤ maxL ∧ ∀ (w : Wld) (p : Program) (e : Env) (R : Room) (s : State) (m : MethodId) (args : Array Value) (below : List Frame) (meth : Method) (c : Code) (Q : State → Prop), R = rmL lev mc ms → CX w p R s m args c cc maxL y.cls lev → RtOK w p l e R s m args below meth c cc maxL (nC S + kkC w) (sC S + kkS w) Q (RtM ret S mc ms K) → M w p l e R s m args below meth c maxL (nC S + kkC w) (sC S + kkS w) Q 0 S (pad maxL as) [] h) : Ct l y cc maxL ret lev mc ms Sp := by
  intro w S as h K hSp
  obtain ⟨hsl, hJ⟩ := hH S as h K hSp
  refine Met.ofW (cc := cc) (maxL := maxL) (ret := ret) hy rfl ?_
  intro p e s m args below meth c s₁ B hml hv
  obtain ⟨rfl, hR, hKn⟩ := hv
  have hts0 := atoms_spec (ws := Cond.code y cc maxL ret :: gT) B.pre
  have X : CX w p (rmL lev mc ms) s m ((as.map (tv w)).toArray) c cc maxL y.cls lev := ⟨B.exec, B.bytes, hml, findClass_of_methodNamed B.named, fun u hu => hts0 u (List.mem_cons_of_mem _ hu), hKn, hKn.2.2.1, Nat.le_refl _, Nat.le_refl _⟩
  obtain ⟨hpad, hlen⟩ := pad_in as maxL w 0 hsl
  have hz : (lg_sl (as.map (tv w))).length ≤ maxL := by
    have key : ∀ as : List Value, (lg_sl (as.map (tv w))).length = slotsN as := by
      intro as
      induction as with
      | nil => rfl
      | cons v r ih =>
        rw [List.map_cons]
        simp only [lg_sl, List.flatMap_cons, List.length_append, slotsN] at ih ⊢
        rw [ih, tv_cat]
        have : v.category = 1 ∨ v.category = 2 := lv_cat v
        rcases this with q | q <;> simp [q]
    rw [key]; exact hsl
  have hl := lv_entry (as.map (tv w)) hz
  rw [lg_entry_eq]
  generalize (lg_sl (as.map (tv w)) ++ List.replicate (maxL - (lg_sl (as.map (tv w))).length) Slot.unset).toArray = ls at hl ⊢
  have hM := hJ w p e (rmL lev mc ms) s m ((as.map (tv w)).toArray) below meth c (MQ below (Qcx w S mc ms K) ((as.map (tv w)).toArray) s mc ms (A0 w)) rfl X (RtM_ok X B.returns B.notSynchronized)
  have h2 := hM s.heap [] ls hlen hR va_S.rf (lv_mono hl hpad) ⟨Nat.le_refl _, Nat.le_add_right _ _, Nat.le_refl _, Nat.le_add_right _ _⟩
  rw [Nat.sub_self, Nat.sub_self] at h2
  exact h2
section STR
variable {w : Wld} {p : Program} {l : Launch} {e : Env} {R : Room} {s : State} {m : MethodId} {args : Array Value} {below : List Frame} {meth : Method} {c : Code} {cc : ByteArray} {nL n0 s0 lev : Nat} {own : String} {Q : State → Prop}
theorem tv_str (w : Wld) (i : Nat) : tv w (.ref (100000 + i)) = .ref (w.2.1 i) := by
  show Value.ref (ad w (100000 + i)) = _
  unfold ad
  rw [if_neg (by omega), show 100000 + i - 100000 = i by omega]
theorem m_strV (X : CX w p R s m args c cc nL own lev) {pc idx i : Nat} {S : SpS} {lv st : List Value} {h : AH} (hd : decode cc pc = .ok (.getfield idx, 3)) (hlink : Cond.fieldLink own idx "java/lang/String" "value" "[B" ∈ gT) (hi : i < 7) (k : M w p l e R s m args below meth c nL n0 s0 Q (pc + 3) S lv (.ref (100000 + (7 + i)) :: st) h) : M w p l e R s m args below meth c nL n0 s0 Q pc S lv (.ref (100000 + i) :: st) h := by
  intro H locs ls hn hR hS hl hc
  have hE := ((X.2.2.2.2.2.1.2.1.2.1).1 i hi).2.2.1
  have kk := k H locs ls hn hR hS hl hc
  rw [List.map_cons, tv_str] at kk ⊢
  exact vk_getf X.1 X.2.1 hE hS X.2.2.2.1 (X.2.2.2.2.1 _ hlink) (fun _ q => q) hd kk
theorem m_strC (X : CX w p R s m args c cc nL own lev) {pc idx i : Nat} {S : SpS} {lv st : List Value} {h : AH} (hd : decode cc pc = .ok (.getfield idx, 3)) (hlink : Cond.fieldLink own idx "java/lang/String" "coder" "B" ∈ gT) (hi : i < 7) (k : M w p l e R s m args below meth c nL n0 s0 Q (pc + 3) S lv (.int 0 :: st) h) : M w p l e R s m args below meth c nL n0 s0 Q pc S lv (.ref (100000 + i) :: st) h := by
  intro H locs ls hn hR hS hl hc
  have hE := ((X.2.2.2.2.2.1.2.1.2.1).1 i hi).2.1
  have kk := k H locs ls hn hR hS hl hc
  rw [List.map_cons] at kk ⊢
  rw [tv_str]
  exact vk_getf X.1 X.2.1 hE hS X.2.2.2.1 (X.2.2.2.2.1 _ hlink) (fun _ q => q) hd kk
theorem m_strL (X : CX w p R s m args c cc nL own lev) {pc i : Nat} {S : SpS} {lv st : List Value} {h : AH} (hd : decode cc pc = .ok (.arraylength, 1)) (hi : i < 7) (k : M w p l e R s m args below meth c nL n0 s0 Q (pc + 1) S lv (.int (nI (lenJ.getD i 0)) :: st) h) : M w p l e R s m args below meth c nL n0 s0 Q pc S lv (.ref (100000 + (7 + i)) :: st) h := by
  intro H locs ls hn hR hS hl hc
  have hE := ((X.2.2.2.2.2.1.2.1.2.1).1 i hi).2.2.2
  have kk := k H locs ls hn hR hS hl hc
  rw [List.map_cons] at kk ⊢
  rw [tv_str]
  exact va_tlen X.1 X.2.1 hE hS rfl hd kk
theorem m_strB (X : CX w p R s m args c cc nL own lev) {pc i j : Nat} {S : SpS} {lv st : List Value} {h : AH} (hd : decode cc pc = .ok (.baload, 1)) (hi : i < 7) (hj : j < lenJ.getD i 0) (hj2 : j < 2147483648) (hl2 : lenJ.getD i 0 < 2147483648) (k : M w p l e R s m args below meth c nL n0 s0 Q (pc + 1) S lv (.int ((bytJ.getD i []).getD j 0) :: st) h) : M w p l e R s m args below meth c nL n0 s0 Q pc S lv (.int (nI j) :: .ref (100000 + (7 + i)) :: st) h := by
  intro H locs ls hn hR hS hl hc
  have hE := ((X.2.2.2.2.2.1.2.1.2.1).1 i hi).2.2.2
  have kk := k H locs ls hn hR hS hl hc
  rw [List.map_cons] at kk
  rw [List.map_cons, List.map_cons, tv_str]
  exact va_tb X.1 X.2.1 hE hS (vp_in_nI hj hl2) (show Value.int ((bytJ.getD i []).getD (nI j).toNatClampNeg 0) = tv w (.int ((bytJ.getD i []).getD j 0)) by rw [nI_clamp hj2]; rfl) hd kk
theorem m_gets1 (X : CX w p R s m args c cc nL own lev) {pc idx : Nat} {S : SpS} {lv st : List Value} {h : AH} (hd : decode cc pc = .ok (.getstatic idx, 3)) (hlink : Cond.fieldLink own idx "java/lang/String" "COMPACT_STRINGS" "Z" ∈ gT) (k : M w p l e R s m args below meth c nL n0 s0 Q (pc + 3) S lv (.int 1 :: st) h) : M w p l e R s m args below meth c nL n0 s0 Q pc S lv st h := by
  intro H locs ls hn hR hS hl hc
  have hE := X.2.2.2.2.2.1.2.1.2.2.2.1
  have kk := k H locs ls hn hR hS hl hc
  rw [List.map_cons] at kk
  exact va_gets X.1 X.2.1 hE hS X.2.2.2.1 (X.2.2.2.2.1 _ hlink) (fun _ q => q) hd kk
theorem m_getsF (X : CX w p R s m args c cc nL own lev) {pc idx : Nat} {S : SpS} {lv st : List Value} {h : AH} (hd : decode cc pc = .ok (.getstatic idx, 3)) (hlink : Cond.fieldLink own idx "jdk/internal/util/Preconditions" "SIOOBE_FORMATTER" "Ljava/util/function/BiFunction;" ∈ gT) (k : ∀ v, v = .null ∨ v = .ref (100000 + 14) → M w p l e R s m args below meth c nL n0 s0 Q (pc + 3) S lv (v :: st) h) : M w p l e R s m args below meth c nL n0 s0 Q pc S lv st h := by
  intro H locs ls hn hR hS hl hc
  rcases X.2.2.2.2.2.1.2.1.2.2.2.2 with hE | hE
  · have kk := k .null (Or.inl rfl) H locs ls hn hR hS hl hc
    rw [List.map_cons] at kk
    exact va_gets X.1 X.2.1 hE hS X.2.2.2.1 (X.2.2.2.2.1 _ hlink) (fun _ q => q) hd kk
  · have kk := k _ (Or.inr rfl) H locs ls hn hR hS hl hc
    rw [List.map_cons, tv_str] at kk
    exact va_gets X.1 X.2.1 hE hS X.2.2.2.1 (X.2.2.2.2.1 _ hlink) (fun _ q => q) hd kk
theorem m_i2c (X : CX w p R s m args c cc nL own lev) {pc : Nat} {S : SpS} {lv st : List Value} {h : AH} {x : Int32} (hd : decode cc pc = .ok (.i2c, 1)) (k : M w p l e R s m args below meth c nL n0 s0 Q (pc + 1) S lv (.int ((x.toUInt32 % 65536).toInt32) :: st) h) : M w p l e R s m args below meth c nL n0 s0 Q (pc) S lv (.int x :: st) h := fun H locs ls hn hR hS hl hc => lv_i2c X.1 X.2.1 hd rfl (k H locs ls hn hR hS hl hc)
end STR
/-- the letter at place k of a text -/
def chJ (i k : Nat) : Int32 := (bytJ.getD i []).getD k 0
theorem ch_ok : ∀ i, i < 7 → lenJ.getD i 0 < 6 ∧ ∀ k, k < lenJ.getD i 0 → (((chJ i k &&& 255).toUInt32 % 65536).toInt32 = chJ i k ∧ narrow .char (.int (chJ i k)) = .int (chJ i k)) := by decide
theorem yv_J0_coder_7d493 : YStr yJ0_coder_7d493 cJ0_coder_7d493 1 (some .byte) 0 := ⟨⟨gT_of (List.mem_of_getElem? (i := 356) (by decide +kernel)) rfl, gT_of (List.mem_of_getElem? (i := 35) (by decide +kernel)) rfl, ⟨by decide, by decide⟩, by decide +kernel, by decide⟩, gT_of (List.mem_of_getElem? (i := 354) (by decide +kernel)) rfl, gT_of (List.mem_of_getElem? (i := 355) (by decide +kernel)) rfl, rfl⟩
theorem yv_J0_isLatin1_aae02 : YStr yJ0_isLatin1_aae02 cJ0_isLatin1_aae02 1 (some .boolean) 0 := ⟨⟨gT_of (List.mem_of_getElem? (i := 366) (by decide +kernel)) rfl, gT_of (List.mem_of_getElem? (i := 35) (by decide +kernel)) rfl, ⟨by decide, by decide⟩, by decide +kernel, by decide⟩, gT_of (List.mem_of_getElem? (i := 364) (by decide +kernel)) rfl, gT_of (List.mem_of_getElem? (i := 365) (by decide +kernel)) rfl, rfl⟩
theorem yv_J0_length_8abf5 : YStr yJ0_length_8abf5 cJ0_length_8abf5 1 (some .int) 0 := ⟨⟨gT_of (List.mem_of_getElem? (i := 352) (by decide +kernel)) rfl, gT_of (List.mem_of_getElem? (i := 35) (by decide +kernel)) rfl, ⟨by decide, by decide⟩, by decide +kernel, by decide⟩, gT_of (List.mem_of_getElem? (i := 350) (by decide +kernel)) rfl, gT_of (List.mem_of_getElem? (i := 351) (by decide +kernel)) rfl, rfl⟩
theorem yv_J0_charAt_5068e : YStr yJ0_charAt_5068e cJ0_charAt_5068e 2 (some .char) 1 := ⟨⟨gT_of (List.mem_of_getElem? (i := 362) (by decide +kernel)) rfl, gT_of (List.mem_of_getElem? (i := 35) (by decide +kernel)) rfl, ⟨by decide, by decide⟩, by decide +kernel, by decide⟩, gT_of (List.mem_of_getElem? (i := 360) (by decide +kernel)) rfl, gT_of (List.mem_of_getElem? (i := 361) (by decide +kernel)) rfl, rfl⟩
theorem yv_J0_checkIndex_df160 : YS yJ0_checkIndex_df160 cJ0_checkIndex_df160 2 none 2 := ⟨⟨gT_of (List.mem_of_getElem? (i := 372) (by decide +kernel)) rfl, gT_of (List.mem_of_getElem? (i := 35) (by decide +kernel)) rfl, ⟨by decide, by decide⟩, by decide +kernel, by decide⟩, gT_of (List.mem_of_getElem? (i := 371) (by decide +kernel)) rfl⟩
theorem yv_J1_charAt_3b067 : YS yJ1_charAt_3b067 cJ1_charAt_3b067 2 (some .char) 2 := ⟨⟨gT_of (List.mem_of_getElem? (i := 369) (by decide +kernel)) rfl, gT_of (List.mem_of_getElem? (i := 36) (by decide +kernel)) rfl, ⟨by decide, by decide⟩, by decide +kernel, by decide⟩, gT_of (List.mem_of_getElem? (i := 368) (by decide +kernel)) rfl⟩
theorem yv_J3_checkIndex_8e157 : YS yJ3_checkIndex_8e157 cJ3_checkIndex_8e157 3 (some .int) 3 := ⟨⟨gT_of (List.mem_of_getElem? (i := 377) (by decide +kernel)) rfl, gT_of (List.mem_of_getElem? (i := 37) (by decide +kernel)) rfl, ⟨by decide, by decide⟩, by decide +kernel, by decide⟩, gT_of (List.mem_of_getElem? (i := 376) (by decide +kernel)) rfl⟩
def P_J0_coder_7d493 : Sp0T := fun as h K => match as with
  | [.ref r] => ∃ i : Nat, i < 7 ∧ r = 100000 + i ∧ K (some (.int 0)) h
  | _ => False
def S_J0_coder_7d493 : SpT := lift P_J0_coder_7d493
theorem lift_d {P : Sp0T} {S : SpS} {as : List Value} {h : AH} {K : Option Value → SpS → AH → Prop} (hq : lift P S as h K) : ∃ nn : Nat, S = (SHn nn) ∧ P as h (fun v h' => K v (SHn nn) h') := hq
set_option maxHeartbeats 4000000 in
theorem c_J0_coder_7d493 (l : Launch) : Ct l yJ0_coder_7d493 cJ0_coder_7d493 1 (some .byte) 1 0 0 S_J0_coder_7d493 := by
  refine Ct_mkM (by decide) (fun S as h K hP => ?_)
  obtain ⟨nn, rfl, hP2⟩ := lift_d hP
  clear hP
  match as, hP2 with
  | [.ref r], ⟨i, hi, hr, hK⟩ =>
  subst hr
  refine ⟨by simp [slotsN, Value.category], fun w p e R s m args below meth c Q hR X hRt => ?_⟩
  refine m_gets1 X (show decode cJ0_coder_7d493 0 = .ok (.getstatic 38, 3) by decide +kernel) (gT_of (List.mem_of_getElem? (i := 357) (by decide +kernel)) rfl) ?_
  refine m_if_eq X (tgt := 13) (show decode cJ0_coder_7d493 3 = .ok (.ifCond .eq 10, 3) by decide +kernel) (by decide) (fun q => absurd q (by decide)) (fun _ => ?_)
  refine m_aload_n X (x := 100000 + i) (show decode cJ0_coder_7d493 6 = .ok (.aload_n 0, 1) by decide +kernel) rfl ?_
  refine m_strC X (show decode cJ0_coder_7d493 7 = .ok (.getfield 15, 3) by decide +kernel) (gT_of (List.mem_of_getElem? (i := 809) (by decide +kernel)) rfl) hi ?_
  refine m_goto X (tgt := 14) (show decode cJ0_coder_7d493 10 = .ok (.goto 4, 3) by decide +kernel) (by decide) ?_
  exact hRt.1 _ _ _ _ _ (show decode cJ0_coder_7d493 14 = .ok (.ireturn, 1) by decide +kernel) ⟨(show narrow .byte (.int 0) = .int 0 by decide), by omega, by omega, hK⟩
def P_J0_isLatin1_aae02 : Sp0T := fun as h K => match as with
  | [.ref r] => ∃ i : Nat, i < 7 ∧ r = 100000 + i ∧ K (some (.int 1)) h
  | _ => False
def S_J0_isLatin1_aae02 : SpT := lift P_J0_isLatin1_aae02
set_option maxHeartbeats 4000000 in
theorem c_J0_isLatin1_aae02 (l : Launch) : Ct l yJ0_isLatin1_aae02 cJ0_isLatin1_aae02 1 (some .boolean) 1 0 0 S_J0_isLatin1_aae02 := by
  refine Ct_mkM (by decide) (fun S as h K hP => ?_)
  obtain ⟨nn, rfl, hP2⟩ := lift_d hP
  clear hP
  match as, hP2 with
  | [.ref r], ⟨i, hi, hr, hK⟩ =>
  subst hr
  refine ⟨by simp [slotsN, Value.category], fun w p e R s m args below meth c Q hR X hRt => ?_⟩
  refine m_gets1 X (show decode cJ0_isLatin1_aae02 0 = .ok (.getstatic 38, 3) by decide +kernel) (gT_of (List.mem_of_getElem? (i := 357) (by decide +kernel)) rfl) ?_
  refine m_if_eq X (tgt := 17) (show decode cJ0_isLatin1_aae02 3 = .ok (.ifCond .eq 14, 3) by decide +kernel) (by decide) (fun q => absurd q (by decide)) (fun _ => ?_)
  refine m_aload_n X (x := 100000 + i) (show decode cJ0_isLatin1_aae02 6 = .ok (.aload_n 0, 1) by decide +kernel) rfl ?_
  refine m_strC X (show decode cJ0_isLatin1_aae02 7 = .ok (.getfield 15, 3) by decide +kernel) (gT_of (List.mem_of_getElem? (i := 809) (by decide +kernel)) rfl) hi ?_
  refine m_if_ne X (tgt := 17) (show decode cJ0_isLatin1_aae02 10 = .ok (.ifCond .ne 7, 3) by decide +kernel) (by decide) (fun q => absurd rfl q) (fun _ => ?_)
  refine m_iconst X (show decode cJ0_isLatin1_aae02 13 = .ok (.iconst 1, 1) by decide +kernel) ?_
  refine m_goto X (tgt := 18) (show decode cJ0_isLatin1_aae02 14 = .ok (.goto 4, 3) by decide +kernel) (by decide) ?_
  exact hRt.1 _ _ _ _ _ (show decode cJ0_isLatin1_aae02 18 = .ok (.ireturn, 1) by decide +kernel) ⟨Or.inr rfl, by omega, by omega, hK⟩
def P_J0_length_8abf5 : Sp0T := fun as h K => match as with
  | [.ref r] => ∃ i : Nat, i < 7 ∧ r = 100000 + i ∧ K (some (.int (nI (lenJ.getD i 0)))) h
  | _ => False
def S_J0_length_8abf5 : SpT := lift P_J0_length_8abf5
theorem shr_0 (x : Int32) : x >>> ((0 : Int32) &&& 31) = x := by
  rw [show ((0 : Int32) &&& 31) = 0 by decide]
  exact Int32.shiftRight_zero
set_option maxHeartbeats 4000000 in
theorem c_J0_length_8abf5 (l : Launch) : Ct l yJ0_length_8abf5 cJ0_length_8abf5 1 (some .int) 2 0 0 S_J0_length_8abf5 := by
  refine Ct_mkM (by decide) (fun S as h K hP => ?_)
  obtain ⟨nn, rfl, hP2⟩ := lift_d hP
  clear hP
  match as, hP2 with
  | [.ref r], ⟨i, hi, hr, hK⟩ =>
  subst hr
  refine ⟨by simp [slotsN, Value.category], fun w p e R s m args below meth c Q hR X hRt => ?_⟩
  refine m_aload_n X (x := 100000 + i) (show decode cJ0_length_8abf5 0 = .ok (.aload_n 0, 1) by decide +kernel) rfl ?_
  refine m_strV X (show decode cJ0_length_8abf5 1 = .ok (.getfield 9, 3) by decide +kernel) (gT_of (List.mem_of_getElem? (i := 808) (by decide +kernel)) rfl) hi ?_
  refine m_strL X (show decode cJ0_length_8abf5 4 = .ok (.arraylength, 1) by decide +kernel) hi ?_
  refine m_aload_n X (x := 100000 + i) (show decode cJ0_length_8abf5 5 = .ok (.aload_n 0, 1) by decide +kernel) rfl ?_
  refine m_callStr X (As := []) (st := [.int (nI (lenJ.getD i 0))]) (mc := 0) (ms := 0) (n := 0) (show decode cJ0_length_8abf5 6 = .ok (.invokevirtual 335, 3) by decide +kernel) (c_J0_coder_7d493 l) yv_J0_coder_7d493 (by decide) (gT_of (List.mem_of_getElem? (i := 353) (by decide +kernel)) rfl) rfl (by omega) (by omega) (by simp [Value.category]) ⟨by omega, by omega⟩ ?_
  refine ⟨_, rfl, i, hi, rfl, ?_⟩
  refine m_ishr X (show decode cJ0_length_8abf5 9 = .ok (.ishr, 1) by decide +kernel) ?_
  rw [shr_0]
  exact hRt.1 _ _ _ _ _ (show decode cJ0_length_8abf5 10 = .ok (.ireturn, 1) by decide +kernel) ⟨trivial, by omega, by omega, hK⟩
def P_J3_checkIndex_8e157 : Sp0T := fun as h K => match as with
  | [.int x, .int n, v] => (v = .null ∨ v = .ref (100000 + 14)) ∧ ¬ x < 0 ∧ x < n ∧ K (some (.int x)) h
  | _ => False
def S_J3_checkIndex_8e157 : SpT := lift P_J3_checkIndex_8e157
set_option maxHeartbeats 4000000 in
theorem c_J3_checkIndex_8e157 (l : Launch) : Ct l yJ3_checkIndex_8e157 cJ3_checkIndex_8e157 3 (some .int) 1 0 0 S_J3_checkIndex_8e157 := by
  refine Ct_mkM (by decide) (fun S as h K hP => ?_)
  obtain ⟨nn, rfl, hP2⟩ := lift_d hP
  clear hP
  match as, hP2 with
  | [.int x, .int n, v], ⟨hv, h0, hx, hK⟩ =>
  refine ⟨by rcases hv with rfl | rfl <;> simp [slotsN, Value.category], fun w p e R s m args below meth c Q hR X hRt => ?_⟩
  have g0 : gL (pad 3 [.int x, .int n, v]) 0 = .int x := by rcases hv with rfl | rfl <;> rfl
  have g1 : gL (pad 3 [.int x, .int n, v]) 1 = .int n := by rcases hv with rfl | rfl <;> rfl
  refine m_iload_n X (x := x) (show decode cJ3_checkIndex_8e157 0 = .ok (.iload_n 0, 1) by decide +kernel) g0 ?_
  refine m_if_lt X (tgt := 9) (show decode cJ3_checkIndex_8e157 1 = .ok (.ifCond .lt 8, 3) by decide +kernel) (by decide) (fun q => absurd q h0) (fun _ => ?_)
  refine m_iload_n X (x := x) (show decode cJ3_checkIndex_8e157 4 = .ok (.iload_n 0, 1) by decide +kernel) g0 ?_
  refine m_iload_n X (x := n) (show decode cJ3_checkIndex_8e157 5 = .ok (.iload_n 1, 1) by decide +kernel) g1 ?_
  refine m_icmp_lt X (tgt := 16) (show decode cJ3_checkIndex_8e157 6 = .ok (.if_icmp .lt 10, 3) by decide +kernel) (by decide) (fun _ => ?_) (fun q => absurd hx q)
  refine m_iload_n X (x := x) (show decode cJ3_checkIndex_8e157 16 = .ok (.iload_n 0, 1) by decide +kernel) g0 ?_
  exact hRt.1 _ _ _ _ _ (show decode cJ3_checkIndex_8e157 17 = .ok (.ireturn, 1) by decide +kernel) ⟨trivial, by omega, by omega, hK⟩
def P_J0_checkIndex_df160 : Sp0T := fun as h K => match as with
  | [.int x, .int n] => ¬ x < 0 ∧ x < n ∧ K none h
  | _ => False
def S_J0_checkIndex_df160 : SpT := lift P_J0_checkIndex_df160
set_option maxHeartbeats 4000000 in
theorem c_J0_checkIndex_df160 (l : Launch) : Ct l yJ0_checkIndex_df160 cJ0_checkIndex_df160 2 none 2 0 0 S_J0_checkIndex_df160 := by
  refine Ct_mkM (by decide) (fun S as h K hP => ?_)
  obtain ⟨nn, rfl, hP2⟩ := lift_d hP
  clear hP
  match as, hP2 with
  | [.int x, .int n], ⟨h0, hx, hK⟩ =>
  refine ⟨by simp [slotsN, Value.category], fun w p e R s m args below meth c Q hR X hRt => ?_⟩
  refine m_iload_n X (x := x) (show decode cJ0_checkIndex_df160 0 = .ok (.iload_n 0, 1) by decide +kernel) rfl ?_
  refine m_iload_n X (x := n) (show decode cJ0_checkIndex_df160 1 = .ok (.iload_n 1, 1) by decide +kernel) rfl ?_
  refine m_getsF X (show decode cJ0_checkIndex_df160 2 = .ok (.getstatic 1053, 3) by decide +kernel) (gT_of (List.mem_of_getElem? (i := 373) (by decide +kernel)) rfl) (fun v hv => ?_)
  refine m_callS X (As := [.int x, .int n, v]) (st := []) (mc := 0) (ms := 0) (n := 3) (show decode cJ0_checkIndex_df160 5 = .ok (.invokestatic 1059, 3) by decide +kernel) (c_J3_checkIndex_8e157 l) yv_J3_checkIndex_8e157 (by decide) (gT_of (List.mem_of_getElem? (i := 375) (by decide +kernel)) rfl) rfl (by simp) ⟨by omega, by omega⟩ ?_
  refine ⟨_, rfl, hv, h0, hx, ?_⟩
  refine m_pop X (v := .int x) (show decode cJ0_checkIndex_df160 8 = .ok (.pop, 1) by decide +kernel) rfl ?_
  exact hRt.2.2.2 _ _ _ _ (show decode cJ0_checkIndex_df160 9 = .ok (.return_, 1) by decide +kernel) ⟨trivial, by omega, by omega, hK⟩
def P_J1_charAt_3b067 : Sp0T := fun as h K => match as with
  | [.ref r, .int x] => ∃ i k : Nat, i < 7 ∧ r = 100000 + (7 + i) ∧ k < lenJ.getD i 0 ∧ x = nI k ∧ K (some (.int (chJ i k))) h
  | _ => False
def S_J1_charAt_3b067 : SpT := lift P_J1_charAt_3b067
set_option maxHeartbeats 4000000 in
theorem c_J1_charAt_3b067 (l : Launch) : Ct l yJ1_charAt_3b067 cJ1_charAt_3b067 2 (some .char) 3 0 0 S_J1_charAt_3b067 := by
  refine Ct_mkM (by decide) (fun S as h K hP => ?_)
  obtain ⟨nn, rfl, hP2⟩ := lift_d hP
  clear hP
  match as, hP2 with
  | [.ref r, .int x], ⟨i, k, hi, hr, hk, hx, hK⟩ =>
  subst hr hx
  obtain ⟨hl6, hch⟩ := ch_ok i hi
  obtain ⟨e1, e2⟩ := hch k hk
  refine ⟨by simp [slotsN, Value.category], fun w p e R s m args below meth c Q hR X hRt => ?_⟩
  refine m_iload_n X (x := nI k) (show decode cJ1_charAt_3b067 0 = .ok (.iload_n 1, 1) by decide +kernel) rfl ?_
  refine m_aload_n X (x := 100000 + (7 + i)) (show decode cJ1_charAt_3b067 1 = .ok (.aload_n 0, 1) by decide +kernel) rfl ?_
  refine m_strL X (show decode cJ1_charAt_3b067 2 = .ok (.arraylength, 1) by decide +kernel) hi ?_
  refine m_callS X (As := [.int (nI k), .int (nI (lenJ.getD i 0))]) (st := []) (mc := 0) (ms := 0) (n := 2) (show decode cJ1_charAt_3b067 3 = .ok (.invokestatic 9, 3) by decide +kernel) (c_J0_checkIndex_df160 l) yv_J0_checkIndex_df160 (by decide) (gT_of (List.mem_of_getElem? (i := 370) (by decide +kernel)) rfl) rfl (by simp) ⟨by omega, by omega⟩ ?_
  refine ⟨_, rfl, nI_pos (by omega), nI_lt hk (by omega), ?_⟩
  refine m_aload_n X (x := 100000 + (7 + i)) (show decode cJ1_charAt_3b067 6 = .ok (.aload_n 0, 1) by decide +kernel) rfl ?_
  refine m_iload_n X (x := nI k) (show decode cJ1_charAt_3b067 7 = .ok (.iload_n 1, 1) by decide +kernel) rfl ?_
  refine m_strB X (show decode cJ1_charAt_3b067 8 = .ok (.baload, 1) by decide +kernel) hi hk (by omega) (by omega) ?_
  refine m_sipush X (show decode cJ1_charAt_3b067 9 = .ok (.sipush 255, 3) by decide +kernel) ?_
  refine m_iand X (show decode cJ1_charAt_3b067 12 = .ok (.iand, 1) by decide +kernel) ?_
  refine m_i2c X (show decode cJ1_charAt_3b067 13 = .ok (.i2c, 1) by decide +kernel) ?_
  rw [show ((((bytJ.getD i []).getD k 0 &&& (Int16.ofInt 255).toInt32).toUInt32 % 65536).toInt32) = chJ i k from e1]
  exact hRt.1 _ _ _ _ _ (show decode cJ1_charAt_3b067 14 = .ok (.ireturn, 1) by decide +kernel) ⟨e2, by omega, by omega, hK⟩
def P_J0_charAt_5068e : Sp0T := fun as h K => match as with
  | [.ref r, .int x] => ∃ i k : Nat, i < 7 ∧ r = 100000 + i ∧ k < lenJ.getD i 0 ∧ x = nI k ∧ K (some (.int (chJ i k))) h
  | _ => False
def S_J0_charAt_5068e : SpT := lift P_J0_charAt_5068e
set_option maxHeartbeats 4000000 in
theorem c_J0_charAt_5068e (l : Launch) : Ct l yJ0_charAt_5068e cJ0_charAt_5068e 2 (some .char) 5 0 0 S_J0_charAt_5068e := by
  refine Ct_mkM (by decide) (fun S as h K hP => ?_)
  obtain ⟨nn, rfl, hP2⟩ := lift_d hP
  clear hP
  match as, hP2 with
  | [.ref r, .int x], ⟨i, k, hi, hr, hk, hx, hK⟩ =>
  subst hr hx
  obtain ⟨hl6, hch⟩ := ch_ok i hi
  obtain ⟨e1, e2⟩ := hch k hk
  refine ⟨by simp [slotsN, Value.category], fun w p e R s m args below meth c Q hR X hRt => ?_⟩
  refine m_aload_n X (x := 100000 + i) (show decode cJ0_charAt_5068e 0 = .ok (.aload_n 0, 1) by decide +kernel) rfl ?_
  refine m_callStr X (As := []) (st := []) (mc := 0) (ms := 0) (n := 0) (show decode cJ0_charAt_5068e 1 = .ok (.invokevirtual 492, 3) by decide +kernel) (c_J0_isLatin1_aae02 l) yv_J0_isLatin1_aae02 (by decide) (gT_of (List.mem_of_getElem? (i := 363) (by decide +kernel)) rfl) rfl (by omega) (by omega) (by simp) ⟨by omega, by omega⟩ ?_
  refine ⟨_, rfl, i, hi, rfl, ?_⟩
  refine m_if_eq X (tgt := 16) (show decode cJ0_charAt_5068e 4 = .ok (.ifCond .eq 12, 3) by decide +kernel) (by decide) (fun q => absurd q (by decide)) (fun _ => ?_)
  refine m_aload_n X (x := 100000 + i) (show decode cJ0_charAt_5068e 7 = .ok (.aload_n 0, 1) by decide +kernel) rfl ?_
  refine m_strV X (show decode cJ0_charAt_5068e 8 = .ok (.getfield 9, 3) by decide +kernel) (gT_of (List.mem_of_getElem? (i := 808) (by decide +kernel)) rfl) hi ?_
  refine m_iload_n X (x := nI k) (show decode cJ0_charAt_5068e 11 = .ok (.iload_n 1, 1) by decide +kernel) rfl ?_
  refine m_callS X (As := [.ref (100000 + (7 + i)), .int (nI k)]) (st := []) (mc := 0) (ms := 0) (n := 2) (show decode cJ0_charAt_5068e 12 = .ok (.invokestatic 495, 3) by decide +kernel) (c_J1_charAt_3b067 l) yv_J1_charAt_3b067 (by decide) (gT_of (List.mem_of_getElem? (i := 367) (by decide +kernel)) rfl) rfl (by simp) ⟨by omega, by omega⟩ ?_
  refine ⟨_, rfl, i, k, hi, rfl, hk, rfl, ?_⟩
  exact hRt.1 _ _ _ _ _ (show decode cJ0_charAt_5068e 15 = .ok (.ireturn, 1) by decide +kernel) ⟨e2, by omega, by omega, hK⟩
