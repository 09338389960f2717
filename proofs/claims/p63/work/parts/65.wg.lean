variable {nn : Nat}
/-! ===== the law reads its script; what keeps its world in order ===== -/
section SC
variable {w : Wld} {p : Program} {l : Launch} {e : Env} {R : Room} {s : State} {m : MethodId} {args : Array Value} {below : List Frame} {meth : Method} {c : Code} {cc : ByteArray} {nL n0 s0 lev : Nat} {own : String} {Q : State → Prop}
theorem tv_scr (w : Wld) : tv w (.ref 100015) = .ref (w.2.1 15) := tv_str w 15
theorem m_slen (X : CX w p R s m args c cc nL own lev) {L : Nat} {xs : Nat → Int32} (hX : va_X (w.2.1 15) L xs s s.heap) (hb : w.2.1 15 < w.2.1 16) {pc : Nat} {S : SpS} {lv st : List Value} {h : AH} (hd : decode cc pc = .ok (.arraylength, 1)) (kk : M w p l e R s m args below meth c nL n0 s0 Q (pc + 1) S lv (.int (nI L) :: st) h) : M w p l e R s m args below meth c nL n0 s0 Q pc S lv (.ref 100015 :: st) h := by
  intro H locs ls hn hR hS hl hc
  have kk := kk H locs ls hn hR hS hl hc
  have hbl : w.2.1 15 < s.heap.size := by obtain ⟨scr, z, -⟩ := hX; exact (Array.getElem?_eq_some_iff.mp z).1
  rw [List.map_cons] at kk ⊢
  rw [tv_scr]
  exact va_slen X.1 X.2.1 hX hbl (Nat.not_le.mpr hb) hS hd kk
theorem m_sld (X : CX w p R s m args c cc nL own lev) {L : Nat} {xs : Nat → Int32} (hX : va_X (w.2.1 15) L xs s s.heap) (hb : w.2.1 15 < w.2.1 16) {pc : Nat} {i : Int32} {S : SpS} {lv st : List Value} {h : AH} (hin : vp_in i L) (hd : decode cc pc = .ok (.iaload, 1)) (kk : M w p l e R s m args below meth c nL n0 s0 Q (pc + 1) S lv (.int (xs i.toNatClampNeg) :: st) h) : M w p l e R s m args below meth c nL n0 s0 Q pc S lv (.int i :: .ref 100015 :: st) h := by
  intro H locs ls hn hR hS hl hc
  have kk := kk H locs ls hn hR hS hl hc
  have hbl : w.2.1 15 < s.heap.size := by obtain ⟨scr, z, -⟩ := hX; exact (Array.getElem?_eq_some_iff.mp z).1
  rw [List.map_cons] at kk
  rw [List.map_cons, List.map_cons, tv_scr]
  exact va_sld X.1 X.2.1 hX hbl (Nat.not_le.mpr hb) hS hin hd kk
end SC
def P_L_at : Sp0T := fun as h K => match as with
  | [.ref s, .int k] => s = 100015 ∧ 0 ≤ k ∧ ∀ x : Int32, K (some (.int x)) h
  | _ => False
def S_L_at : SpT := lift P_L_at
def L_L_at_13 : List Item := (13, .ireturn, [], nS) :: []
def L_L_at_12 : List Item := (12, .iconst 0, [], nS) :: L_L_at_13
def L_L_at_0 : List Item := (0, .iload_n 1, [], nS) :: (1, .aload_n 0, [], nS) :: (2, .arraylength, [], nS) :: (3, .if_icmp .ge 9, [12], nS) :: (6, .aload_n 0, [], nS) :: (7, .iload_n 1, [], nS) :: (8, .iaload, [], nS) :: (9, .goto 4, [13], nS) :: L_L_at_12
def L_L_at : List Item := L_L_at_0
theorem ok_L_at : okB cL_at L_L_at = true := by decide +kernel
theorem lk_L_at (l : Launch) : LKs l RL 1 false L_L_at := ⟨trivial, trivial, trivial, trivial, trivial, trivial, trivial, trivial, trivial, trivial, trivial⟩
theorem b_L_at_0 : atL L_L_at 0 = L_L_at_0 := rfl
theorem b_L_at_12 : atL L_L_at 12 = L_L_at_12 := rfl
theorem b_L_at_13 : atL L_L_at 13 = L_L_at_13 := rfl
theorem a_L_at_12 : afw L_L_at [] 12 = L_L_at_12 := rfl
theorem a_L_at_13 : afw L_L_at [] 13 = L_L_at_13 := rfl
theorem yv_L_at : YS yL_at cL_at 2 (some .int) 2 := ⟨⟨gT_of (List.mem_of_getElem? (i := 728) (by decide +kernel)) rfl, gT_of (List.mem_of_getElem? (i := 25) (by decide +kernel)) rfl, ⟨by decide, by decide⟩, by decide +kernel, by decide⟩, gT_of (List.mem_of_getElem? (i := 727) (by decide +kernel)) rfl⟩
theorem u_L_at_0 : L_L_at_0 = (0, .iload_n 1, [], nS) :: (1, .aload_n 0, [], nS) :: (2, .arraylength, [], nS) :: (3, .if_icmp .ge 9, [12], nS) :: (6, .aload_n 0, [], nS) :: (7, .iload_n 1, [], nS) :: (8, .iaload, [], nS) :: (9, .goto 4, [13], nS) :: L_L_at_12 := nr rfl
theorem u_L_at_12 : L_L_at_12 = (12, .iconst 0, [], nS) :: L_L_at_13 := nr rfl
theorem u_L_at_13 : L_L_at_13 = (13, .ireturn, [], nS) :: [] := nr rfl
theorem z_L_at_0 : atL L_L_at 0 = L_L_at_0 := nr rfl
theorem z_L_at_12 : atL L_L_at 12 = L_L_at_12 := nr rfl
theorem z_L_at_13 : atL L_L_at 13 = L_L_at_13 := nr rfl
theorem j_L_at_12 {G : List Item → SpS → List Value → List Value → AH → Prop} {J : Nat → SpS → List Value → List Value → AH → Prop} {S : SpS} {lv st : List Value} {h : AH} : jmp G J (afw L_L_at [] 12) 12 S lv st h = G L_L_at_12 S lv st h := nr rfl
theorem j_L_at_13 {G : List Item → SpS → List Value → List Value → AH → Prop} {J : Nat → SpS → List Value → List Value → AH → Prop} {S : SpS} {lv st : List Value} {h : AH} : jmp G J (afw L_L_at [] 13) 13 S lv st h = G L_L_at_13 S lv st h := nr rfl
theorem e_L_at {s : Addr} {k : Int32} {h : AH} {K2 : Option Value → SpS → AH → Prop} : S_L_at (SHn nn) [.ref s, .int k] h K2 = (fun (K : Option Value → AH → Prop) => s = 100015 ∧ 0 ≤ k ∧ ∀ x : Int32, K (some (.int x)) h) (fun v h' => K2 v (SHn nn) h') := (lift_e P_L_at [.ref s, .int k] h K2).trans (nr rfl)
set_option maxRecDepth 100000 in
set_option maxHeartbeats 4000000 in
theorem c_L_at (l : Launch) : Ct l yL_at cL_at 2 (some .int) 1 0 0 S_L_at := by
  refine Ct_mkM (by decide) (fun S as h K hP => ?_)
  obtain ⟨nn, rfl, hP2⟩ := lift_d hP
  clear hP
  match as, hP2 with
  | [.ref s, .int k], ⟨hs, hk, hK⟩ =>
  subst hs
  refine ⟨by simp [slotsN, Value.category], fun w p e R s m args below meth c Q hR X hRt => ?_⟩
  obtain ⟨-, -, hx0, hx1, L, xs, hL, hX⟩ := X.2.2.2.2.2.1
  refine m_iload_n X (x := k) (show decode cL_at 0 = .ok (.iload_n 1, 1) by decide +kernel) rfl ?_
  refine m_aload_n X (x := 100015) (show decode cL_at 1 = .ok (.aload_n 0, 1) by decide +kernel) rfl ?_
  refine m_slen X hX hx1 (show decode cL_at 2 = .ok (.arraylength, 1) by decide +kernel) ?_
  refine m_icmp_ge X (tgt := 12) (show decode cL_at 3 = .ok (.if_icmp .ge 9, 3) by decide +kernel) (by decide) (fun q => ?_) (fun q => ?_)
  · refine m_iconst X (show decode cL_at 12 = .ok (.iconst 0, 1) by decide +kernel) ?_
    exact hRt.1 _ _ _ _ _ (show decode cL_at 13 = .ok (.ireturn, 1) by decide +kernel) ⟨trivial, by omega, by omega, hK _⟩
  · refine m_aload_n X (x := 100015) (show decode cL_at 6 = .ok (.aload_n 0, 1) by decide +kernel) rfl ?_
    refine m_iload_n X (x := k) (show decode cL_at 7 = .ok (.iload_n 1, 1) by decide +kernel) rfl ?_
    refine m_sld X hX hx1 ?_ (show decode cL_at 8 = .ok (.iaload, 1) by decide +kernel) ?_
    · have hk2 : k < nI L := Int32.not_le.mp q
      have h0 : 0 ≤ k.toInt := by rw [le_ti, ti_0] at hk; exact hk
      obtain ⟨j, hj, hj2⟩ := ti_nI h0
      have b := Int32.toInt_lt k
      rw [hj, nI_ltx (by omega) (by omega)] at hk2
      rw [hj]
      exact vp_in_nI hk2 (by omega)
    refine m_goto X (tgt := 13) (show decode cL_at 9 = .ok (.goto 4, 3) by decide +kernel) (by decide) ?_
    exact hRt.1 _ _ _ _ _ (show decode cL_at 13 = .ok (.ireturn, 1) by decide +kernel) ⟨trivial, by omega, by omega, hK _⟩
/-- the law's world, as the class has it -/
def wldE (E : ES) : Prop := okE E ∧ okT E ∧ wE 9999 E
def wldG (G : GV) : Prop := wldE (vE G) ∧ vK G = 0 ∧ vS G = 0 ∧ ∀ s, s < 8 → vH G s = -1
theorem wld_good {E : ES} (h : wldE E) : goodE 9999 E := by
  obtain ⟨h1, h2, h3, T', h4, h5, h6⟩ := h
  have h7 := sumI_0 (f := usI E) (cnt E) h6
  exact ⟨h1, h2, bnd_le h4 (by omega)⟩
theorem wld_inv {G : GV} (h : wldG G) : inv 9999 G := ⟨wld_good h.1, Or.inl h.2.1, ⟨0, by omega, h.2.2.1⟩, fun s hs => Or.inl (h.2.2.2 s hs)⟩
theorem wld_ok {G : GV} (h : wldG G) : okG G := ⟨9999, by omega, wld_inv h⟩
theorem wld_E {G : GV} {E : ES} (h : wldG G) (hE : wldE E) : wldG (uE G E) := ⟨hE, h.2.1, h.2.2.1, h.2.2.2⟩
theorem wld_pass {E : ES} (h : wldE E) (n : Nat) : wldE (passN n E) := by
  have hg := good_passN (T := 9999) (by omega) (wld_good h) n
  exact ⟨hg.1, hg.2.1, wE_passN (by omega) h.2.2 n⟩
theorem wld_0 {E : ES} (ho : okE E) (hc : cnt E = 0) (h0 : 0 ≤ (eS E 0).toInt) (h1 : (eS E 0).toInt ≤ 9999) : wldE E := by
  refine ⟨ho, fun i hi => by omega, by omega, 9999, bnd_iff.mpr ⟨⟨h0, h1⟩, fun i hi => by omega, ?_⟩, ?_, fun i hi => by omega⟩
  · unfold totE; rw [hc]; show _ + (0 : Int) ≤ _; omega
  · rw [hc]; show (9999 : Int) + 0 ≤ 9999; omega
theorem wld_add {E : ES} {k a y f : Int32} (h : wldE E) (hn : cnt E < 10) (ha : inI a 9) (hf : f = -1 ∨ ∃ j, j < cnt E ∧ f = nI j) : wldE (addE E k a y f) := by
  obtain ⟨h1, h2, h3, T', h4, h5, h6⟩ := h
  have g := good_addE (k := k) (y := y) (T := T') ⟨h1, h2, h4⟩ hn ha hf
  have hc : cnt (addE E k a y f) = cnt E + 1 := by
    show (nI (cnt E + 1)).toNatClampNeg = _
    exact nI_clamp (by omega)
  have hu : ∀ i, i < cnt E → usI (addE E k a y f) i = usI E i := by
    intro i hi
    show (if i = cnt E ∧ 5 < 7 then newF k a y f 5 else E.2.2 i 5).toInt = _
    rw [if_neg (by omega)]; rfl
  have hu2 : usI (addE E k a y f) (cnt E) = 0 := by
    show (if cnt E = cnt E ∧ 5 < 7 then newF k a y f 5 else E.2.2 (cnt E) 5).toInt = _
    rw [if_pos ⟨rfl, by omega⟩]; rfl
  refine ⟨g.1, g.2.1, g.1.2.1, T', g.2.2, ?_, fun i hi => ?_⟩
  · rw [hc, sumI_s, hu2, sumI_eq (cnt E) hu]; omega
  · rw [hc] at hi
    by_cases z : i = cnt E
    · rw [z, hu2]; exact Int.le_refl 0
    · rw [hu i (by omega)]; exact h6 i (by omega)
theorem wld_give {E : ES} {i j : Nat} {n : Int32} (h : wldE E) (hi : i < cnt E) (hj : j < cnt E) (hij : i ≠ j) (h0 : 0 ≤ n.toInt) (h1 : n.toInt ≤ (eF E i 4).toInt) : wldE (giveE E i j n) := by
  obtain ⟨o1, o2, h3, T', h4, h5, h6⟩ := h
  have h7 := sumI_0 (f := usI E) (cnt E) h6
  have b1 := bnd_h h4 (by omega) hi
  have b2 := bnd_h h4 (by omega) hj
  have b3 := (inv_0 h4).1
  have e1 := ti_sub (a := eF E i 4) (b := n) (by omega) (by omega)
  have e2 := ti_add (a := eF E j 4) (b := n) (by omega) (by omega)
  have t1 := tot_sF4 (E := E) (v := eF E i 4 - n) hi
  have bb : bndE T' (sF E i 4 (eF E i 4 - n)) := bnd_has h4 hi (by omega) (by have := h4.2.2; omega)
  have ej : eF (sF E i 4 (eF E i 4 - n)) j 4 = eF E j 4 := by rw [eF_sF, if_neg (by omega)]
  have t2 := tot_sF4 (E := sF E i 4 (eF E i 4 - n)) (i := j) (v := eF E j 4 + n) hj
  rw [ej] at t2
  have bc : bndE T' (giveE E i j n) := bnd_has bb hj (by omega) (by have := h4.2.2; omega)
  have hu : ∀ k, usI (giveE E i j n) k = usI E k := fun k => congrArg Int32.toInt (by unfold giveE; rw [eF_sF, if_neg (by omega), eF_sF, if_neg (by omega)])
  refine ⟨o1, ?_, h3, T', bc, ?_, fun k hk => ?_⟩
  · intro k hk
    have e : eF (giveE E i j n) k 2 = eF E k 2 := by unfold giveE; rw [eF_sF, if_neg (by omega), eF_sF, if_neg (by omega)]
    rw [e]
    exact o2 k hk
  · show (T' : Int) + sumI (cnt E) _ ≤ _
    rw [sumI_eq (cnt E) (fun k _ => hu k)]; exact h5
  · rw [hu]; exact h6 k hk
