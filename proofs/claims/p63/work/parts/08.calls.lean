theorem w_acN : Cond.native arraycopyName ∈ gT := gT_of (List.mem_of_getElem? (i := 311) (by decide +kernel)) rfl
theorem w_acS : Cond.static arraycopyName ∈ gT := gT_of (List.mem_of_getElem? (i := 310) (by decide +kernel)) rfl
theorem w_inSys : Cond.initialized "java/lang/System" ∈ gT := gT_of (List.mem_of_getElem? (i := 32) (by decide +kernel)) rfl
theorem w_maxS : Cond.static Lib.Math.max.name ∈ gT := gT_of (List.mem_of_getElem? (i := 591) (by decide +kernel)) rfl
theorem w_minS : Cond.static Lib.Math.min.name ∈ gT := gT_of (List.mem_of_getElem? (i := 492) (by decide +kernel)) rfl
theorem w_inMath : Cond.initialized "java/lang/Math" ∈ gT := gT_of (List.mem_of_getElem? (i := 33) (by decide +kernel)) rfl
theorem w_maxC : Cond.code Lib.Math.max.name Lib.Math.max.code 2 (some .int) ∈ gT := gT_of (List.mem_of_getElem? (i := 592) (by decide +kernel)) rfl
theorem w_minC : Cond.code Lib.Math.min.name Lib.Math.min.code 2 (some .int) ∈ gT := gT_of (List.mem_of_getElem? (i := 493) (by decide +kernel)) rfl
theorem w_oiI : Cond.instanceMethod Lib.objectInit ∈ gT := gT_of (List.mem_of_getElem? (i := 45) (by decide +kernel)) rfl
theorem w_oiC : Cond.code Lib.objectInit ⟨#[0xb1]⟩ 1 none ∈ gT := gT_of (List.mem_of_getElem? (i := 46) (by decide +kernel)) rfl
theorem nfw7 : nativeFrameWords "java/lang/System" "arraycopy" 5 = 7 := by decide +kernel
theorem gI_rowI (h : AH) (c : Nat) (f : Nat → Int32) : gI (rowI h c f) c = f := by funext k; simp [gI, rowI]
theorem gJ_rowJ (h : AH) (c : Nat) (f : Nat → Int64) : gJ (rowJ h c f) c = f := by funext k; simp [gJ, rowJ]
section MC
variable {w : Wld} {p : Program} {l : Launch} {e : Env} {R : Room} {s : State} {m : MethodId} {args : Array Value} {below : List Frame} {meth : Method} {c : Code} {cc : ByteArray} {nL n0 s0 lev : Nat} {own : String} {Q : State → Prop}
theorem m_aast (X : CX w p R s m args c cc nL own lev) {pc a b : Nat} {i : Int32} {S : SpS} {lv st : List Value} {h : AH} (hd : decode cc pc = .ok (.aastore, 1)) (ht : ((tC S a).1 = 12 ∧ (tC S b).1 = 1) ∨ ((tC S a).1 = 13 ∧ (tC S b).1 = 3)) (hin : vp_in i (tC S a).2) (hz0 : s.heap.size + kkC w = w.1 + n0) (kk : M w p l e R s m args below meth c nL n0 s0 Q (pc + 1) (pR S a i.toNatClampNeg (b + 1)) lv st h) : M w p l e R s m args below meth c nL n0 s0 Q pc S lv (.ref b :: .int i :: .ref a :: st) h := by
  intro H locs ls hn hR hS hl hc
  obtain ⟨ha, had⟩ := Rl_in hR (c := a) (by omega)
  obtain ⟨hb, hbd⟩ := Rl_in hR (c := b) (by omega)
  have he := wsO_at (w := w) (S := S) (h := h) ha
  have hv := wsO_at (w := w) (S := S) (h := h) hb
  rw [List.map_cons, List.map_cons, List.map_cons, show tv w (.ref a) = .ref (w.1 + a) by show Value.ref (ad w a) = _; rw [had], show tv w (.ref b) = .ref (w.1 + b) by show Value.ref (ad w b) = _; rw [hbd]]
  have fin : ∀ (f : Nat → Option Nat) (H1 : Heap) (locs1 : List Loc) (cA : ClassId) (e' : va_E), e' = ent w (pR S a i.toNatClampNeg (b + 1)) h a → va_P w.2.2.1 vwCl ((wsO w S h).set a (w.1 + a, e')) H1 → va_S (A0 w) s.heap H1 locs1 → W p l e R s m args below meth c H1 locs1 (nC S + kkC w - n0) (sC S + kkS w - s0) Q (F0 m (pc + 1) ls (st.map (tv w))) := by
    intro f H1 locs1 cA e' he' hP1 hS1 T hT XX
    rw [wsO_set (S := S) (h := h) (S' := pR S a i.toNatClampNeg (b + 1)) (h' := h) rfl he'.symm (fun c' hc' => ent_pR hc')] at hP1
    have hsz := XX.heapSize
    have hlast := (hP1 (nC S - 1) _ (wsO_at (by show nC S - 1 < nC S; omega))).lt
    have hlast' : w.1 + (nC S - 1) < H1.size := hlast
    have hz : H1.size = w.1 + nC S := by rw [hT] at hsz; omega
    exact kk H1 locs1 ls hn ⟨hz, hR.2.1, hR.2.2.1, hP1⟩ hS1 hl hc T hT XX
  have hr : ∀ j, va_up (fun j => ro w (rC S a j)) i.toNatClampNeg (some (w.1 + b)) j = ro w (rC (pR S a i.toNatClampNeg (b + 1)) a j) := by
    intro j
    by_cases hj : j = i.toNatClampNeg
    · subst hj
      simp [va_up, rC, pR, ro, hbd]
    · simp [va_up, rC, pR, hj]
  rcases ht with ⟨ht, hbt⟩ | ⟨ht, hbt⟩
  · rw [ent_q ht] at he
    rw [ent_obj hbt (by omega)] at hv
    refine va_astq X.1 X.2.1 X.2.2.2.2.2.1.1 hR.2.2.2 (wsO_D X.2.2.2.2.2.2.1 S h) hS a 2 b 1 he rfl hv rfl hin hd (fun H1 locs1 hP1 hD1 hS1 => ?_)
    refine fin (fun _ => none) H1 locs1 0 _ ?_ hP1 hS1
    rw [ent_q (S := pR S a i.toNatClampNeg (b + 1)) ht]
    simp only [funext hr]
    rfl
  · rw [ent_r ht] at he
    rw [ent_obj hbt (by omega)] at hv
    refine va_astq X.1 X.2.1 X.2.2.2.2.2.1.1 hR.2.2.2 (wsO_D X.2.2.2.2.2.2.1 S h) hS a 3 b 3 he rfl hv rfl hin hd (fun H1 locs1 hP1 hD1 hS1 => ?_)
    refine fin (fun _ => none) H1 locs1 0 _ ?_ hP1 hS1
    rw [ent_r (S := pR S a i.toNatClampNeg (b + 1)) ht]
    simp only [funext hr]
    rfl
theorem m_copyi (X : CX w p R s m args c cc nL own lev) {pc idx a b : Nat} {sp dp n : Int32} {S : SpS} {lv st : List Value} {h : AH} (hd : decode cc pc = .ok (.invokestatic idx, 3)) (hlev : 1 ≤ lev) (hlink : Cond.methodLink own idx arraycopyName ∈ gT) (ha1 : (tC S a).1 = 10) (hb1 : (tC S b).1 = 10) (h1 : ¬ sp < 0) (h2 : ¬ dp < 0) (h3 : ¬ n < 0) (h4 : sp.toNatClampNeg + n.toNatClampNeg ≤ (tC S a).2) (h5 : dp.toNatClampNeg + n.toNatClampNeg ≤ (tC S b).2) (hst : (st.map fun v => v.category).sum ≤ 8) (hz0 : s.heap.size + kkC w = w.1 + n0)
    (kk : M w p l e R s m args below meth c nL n0 s0 Q (pc + 3) S lv st (rowI h b (va_cpy (gI h a) (gI h b) sp.toNatClampNeg dp.toNatClampNeg n.toNatClampNeg))) : M w p l e R s m args below meth c nL n0 s0 Q pc S lv (.int n :: .int dp :: .ref b :: .int sp :: .ref a :: st) h := by
  intro H locs ls hn hR hS hl hc
  obtain ⟨ha, had⟩ := Rl_in hR (c := a) (by omega)
  obtain ⟨hb, hbd⟩ := Rl_in hR (c := b) (by omega)
  have he := wsO_at (w := w) (S := S) (h := h) ha
  have hv := wsO_at (w := w) (S := S) (h := h) hb
  rw [ent_i ha1] at he
  rw [ent_i hb1] at hv
  have hts := X.2.2.2.2.1
  have hcat : ((st.map (tv w)).map fun v => v.category).sum ≤ 8 := by
    rw [List.map_map, show ((fun v : Value => v.category) ∘ tv w) = (fun v => v.category) from funext (fun v => tv_cat w v)]
    exact hst
  have hR36 := X.2.2.2.2.2.2.2
  simp only [List.map_cons]
  rw [show tv w (.ref a) = .ref (w.1 + a) by show Value.ref (ad w a) = _; rw [had], show tv w (.ref b) = .ref (w.1 + b) by show Value.ref (ad w b) = _; rw [hbd]]
  refine va_copyi X.1 X.2.1 (by rw [X.2.2.1]; exact hl.1.symm) X.2.2.2.1 (hts _ hlink) (hts _ w_acN) (hts _ w_acS) (hts _ w_inSys) X.2.2.2.2.2.1.1 hR.2.2.2 (wsO_D X.2.2.2.2.2.2.1 S h) hS a b 0 0 he hv rfl rfl rfl h1 h2 h3 h4 h5 (fun i hi => rfl) (by omega) (by rw [nfw7]; omega) hd (fun H1 locs1 hP1 hD1 hS1 => ?_)
  intro T hT XX
  rw [wsO_set (S' := S) (h' := rowI h b (va_cpy (gI h a) (gI h b) sp.toNatClampNeg dp.toNatClampNeg n.toNatClampNeg)) rfl (by rw [ent_i hb1, gI_rowI]) (fun c' hc' => ent_rowI hc')] at hP1
  have hsz := XX.heapSize
  have hlast := (hP1 (nC S - 1) _ (wsO_at (by omega))).lt
  have hlast' : w.1 + (nC S - 1) < H1.size := hlast
  have hz : H1.size = w.1 + nC S := by rw [hT] at hsz; omega
  exact kk H1 locs1 ls hn ⟨hz, hR.2.1, hR.2.2.1, hP1⟩ hS1 hl hc T hT XX
theorem m_copyl (X : CX w p R s m args c cc nL own lev) {pc idx a b : Nat} {sp dp n : Int32} {S : SpS} {lv st : List Value} {h : AH} (hd : decode cc pc = .ok (.invokestatic idx, 3)) (hlev : 1 ≤ lev) (hlink : Cond.methodLink own idx arraycopyName ∈ gT) (ha1 : (tC S a).1 = 11) (hb1 : (tC S b).1 = 11) (h1 : ¬ sp < 0) (h2 : ¬ dp < 0) (h3 : ¬ n < 0) (h4 : sp.toNatClampNeg + n.toNatClampNeg ≤ (tC S a).2) (h5 : dp.toNatClampNeg + n.toNatClampNeg ≤ (tC S b).2) (hst : (st.map fun v => v.category).sum ≤ 8) (hz0 : s.heap.size + kkC w = w.1 + n0)
    (kk : M w p l e R s m args below meth c nL n0 s0 Q (pc + 3) S lv st (rowJ h b (va_cpy (gJ h a) (gJ h b) sp.toNatClampNeg dp.toNatClampNeg n.toNatClampNeg))) : M w p l e R s m args below meth c nL n0 s0 Q pc S lv (.int n :: .int dp :: .ref b :: .int sp :: .ref a :: st) h := by
  intro H locs ls hn hR hS hl hc
  obtain ⟨ha, had⟩ := Rl_in hR (c := a) (by omega)
  obtain ⟨hb, hbd⟩ := Rl_in hR (c := b) (by omega)
  have he := wsO_at (w := w) (S := S) (h := h) ha
  have hv := wsO_at (w := w) (S := S) (h := h) hb
  rw [ent_l ha1] at he
  rw [ent_l hb1] at hv
  have hts := X.2.2.2.2.1
  have hcat : ((st.map (tv w)).map fun v => v.category).sum ≤ 8 := by
    rw [List.map_map, show ((fun v : Value => v.category) ∘ tv w) = (fun v => v.category) from funext (fun v => tv_cat w v)]
    exact hst
  have hR36 := X.2.2.2.2.2.2.2
  simp only [List.map_cons]
  rw [show tv w (.ref a) = .ref (w.1 + a) by show Value.ref (ad w a) = _; rw [had], show tv w (.ref b) = .ref (w.1 + b) by show Value.ref (ad w b) = _; rw [hbd]]
  refine va_copyl X.1 X.2.1 (by rw [X.2.2.1]; exact hl.1.symm) X.2.2.2.1 (hts _ hlink) (hts _ w_acN) (hts _ w_acS) (hts _ w_inSys) X.2.2.2.2.2.1.1 hR.2.2.2 (wsO_D X.2.2.2.2.2.2.1 S h) hS a b 1 1 he hv rfl rfl rfl h1 h2 h3 h4 h5 (fun i hi => rfl) (by omega) (by rw [nfw7]; omega) hd (fun H1 locs1 hP1 hD1 hS1 => ?_)
  intro T hT XX
  rw [wsO_set (S' := S) (h' := rowJ h b (va_cpy (gJ h a) (gJ h b) sp.toNatClampNeg dp.toNatClampNeg n.toNatClampNeg)) rfl (by rw [ent_l hb1, gJ_rowJ]) (fun c' hc' => ent_rowJ hc')] at hP1
  have hsz := XX.heapSize
  have hlast := (hP1 (nC S - 1) _ (wsO_at (by omega))).lt
  have hlast' : w.1 + (nC S - 1) < H1.size := hlast
  have hz : H1.size = w.1 + nC S := by rw [hT] at hsz; omega
  exact kk H1 locs1 ls hn ⟨hz, hR.2.1, hR.2.2.1, hP1⟩ hS1 hl hc T hT XX
theorem cat_map (w : Wld) (st : List Value) : ((st.map (tv w)).map fun v => v.category).sum = (st.map fun v => v.category).sum := by
  rw [List.map_map, show ((fun v : Value => v.category) ∘ tv w) = (fun v => v.category) from funext (fun v => tv_cat w v)]
theorem m_max (X : CX w p R s m args c cc nL own lev) {pc idx : Nat} {x y : Int32} {S : SpS} {lv st : List Value} {h : AH} (hd : decode cc pc = .ok (.invokestatic idx, 3)) (hlev : 1 ≤ lev) (hlink : Cond.methodLink own idx Lib.Math.max.name ∈ gT) (hst : (st.map fun v => v.category).sum ≤ 8)
    (kk : M w p l e R s m args below meth c nL n0 s0 Q (pc + 3) S lv (.int (if x < y then y else x) :: st) h) : M w p l e R s m args below meth c nL n0 s0 Q pc S lv (.int y :: .int x :: st) h := by
  intro H locs ls hn hR hS hl hc
  have hts := X.2.2.2.2.1
  have hR36 := X.2.2.2.2.2.2.2
  have hcat := cat_map w st
  exact va_mmax X.1 X.2.1 (by rw [X.2.2.1]; exact hl.1.symm) X.2.2.2.1 (hts _ hlink) (hts _ w_maxS) (hts _ w_inMath) (hts _ w_maxC) (by omega) (by omega) (by omega) (by omega) hd (kk H locs ls hn hR hS hl hc)
theorem m_min (X : CX w p R s m args c cc nL own lev) {pc idx : Nat} {x y : Int32} {S : SpS} {lv st : List Value} {h : AH} (hd : decode cc pc = .ok (.invokestatic idx, 3)) (hlev : 1 ≤ lev) (hlink : Cond.methodLink own idx Lib.Math.min.name ∈ gT) (hst : (st.map fun v => v.category).sum ≤ 8)
    (kk : M w p l e R s m args below meth c nL n0 s0 Q (pc + 3) S lv (.int (if y < x then y else x) :: st) h) : M w p l e R s m args below meth c nL n0 s0 Q pc S lv (.int y :: .int x :: st) h := by
  intro H locs ls hn hR hS hl hc
  have hts := X.2.2.2.2.1
  have hR36 := X.2.2.2.2.2.2.2
  have hcat := cat_map w st
  exact va_mmin X.1 X.2.1 (by rw [X.2.2.1]; exact hl.1.symm) X.2.2.2.1 (hts _ hlink) (hts _ w_minS) (hts _ w_inMath) (hts _ w_minC) (by omega) (by omega) (by omega) (by omega) hd (kk H locs ls hn hR hS hl hc)
theorem m_ldcI (X : CX w p R s m args c cc nL own lev) {pc idx : Nat} {v : Int32} {S : SpS} {lv st : List Value} {h : AH} (hd : decode cc pc = .ok (.ldc idx, 2)) (hc1 : Cond.constant own idx v ∈ gT) (kk : M w p l e R s m args below meth c nL n0 s0 Q (pc + 2) S lv (.int v :: st) h) : M w p l e R s m args below meth c nL n0 s0 Q pc S lv st h :=
  fun H locs ls hn hR hS hl hc => lv_ldc X.1 X.2.1 X.2.2.2.1 (X.2.2.2.2.1 _ hc1) hd (kk H locs ls hn hR hS hl hc)
theorem m_ldcw (X : CX w p R s m args c cc nL own lev) {pc idx : Nat} {v : Int32} {S : SpS} {lv st : List Value} {h : AH} (hd : decode cc pc = .ok (.ldc_w idx, 3)) (hc1 : Cond.constant own idx v ∈ gT) (kk : M w p l e R s m args below meth c nL n0 s0 Q (pc + 3) S lv (.int v :: st) h) : M w p l e R s m args below meth c nL n0 s0 Q pc S lv st h :=
  fun H locs ls hn hR hS hl hc => lv_ldcw X.1 X.2.1 X.2.2.2.1 (X.2.2.2.2.1 _ hc1) hd (kk H locs ls hn hR hS hl hc)
theorem m_ldc2 (X : CX w p R s m args c cc nL own lev) {pc idx : Nat} {v : Int64} {S : SpS} {lv st : List Value} {h : AH} (hd : decode cc pc = .ok (.ldc2_w idx, 3)) (hc1 : Cond.constantLong own idx v ∈ gT) (kk : M w p l e R s m args below meth c nL n0 s0 Q (pc + 3) S lv (.long v :: st) h) : M w p l e R s m args below meth c nL n0 s0 Q pc S lv st h :=
  fun H locs ls hn hR hS hl hc => lv_ldc2 X.1 X.2.1 X.2.2.2.1 (X.2.2.2.2.1 _ hc1) hd (kk H locs ls hn hR hS hl hc)
theorem m_ldcS (X : CX w p R s m args c cc nL own lev) {pc idx i : Nat} {tx : String} {S : SpS} {lv st : List Value} {h : AH} (hd : decode cc pc = .ok (.ldc idx, 2)) (hq : (own, idx, tx, i) ∈ strT) (kk : M w p l e R s m args below meth c nL n0 s0 Q (pc + 2) S lv (.ref (100000 + i) :: st) h) : M w p l e R s m args below meth c nL n0 s0 Q pc S lv st h := by
  intro H locs ls hn hR hS hl hc
  have k2 := kk H locs ls hn hR hS hl hc
  rw [List.map_cons, show tv w (.ref (100000 + i)) = .ref (w.2.1 i) by show Value.ref (ad w (100000 + i)) = _; unfold ad; rw [if_neg (by omega), Nat.add_sub_cancel_left]] at k2
  exact va_ldcS X.1 X.2.1 X.2.2.2.1 (X.2.2.2.2.2.1.2.1.2.2.1 _ hq) hd k2
theorem m_tsw (X : CX w p R s m args c cc nL own lev) {pc len : Nat} {dflt lo hi : Int} {offs : Array Int} {x : Int32} {S : SpS} {lv st : List Value} {h : AH} (hd : decode cc pc = .ok (.tableswitch dflt lo hi offs, len)) (hlo : lo ≤ hi) (hsz : (offs.size : Int) = hi - lo + 1)
    (kin : ∀ (i : Nat) (off : Int), offs[i]? = some off → x.toInt = lo + i → ∃ tgt : Nat, (pc : Int) + off = tgt ∧ M w p l e R s m args below meth c nL n0 s0 Q tgt S lv st h) (kout : x.toInt < lo ∨ hi < x.toInt → ∃ tgt : Nat, (pc : Int) + dflt = tgt ∧ M w p l e R s m args below meth c nL n0 s0 Q tgt S lv st h) : M w p l e R s m args below meth c nL n0 s0 Q pc S lv (.int x :: st) h := by
  intro H locs ls hn hR hS hl hc
  by_cases hx : x.toInt < lo ∨ hi < x.toInt
  · obtain ⟨tgt, h1, h2⟩ := kout hx
    exact lv_tableOut X.1 X.2.1 hd hx h1 (h2 H locs ls hn hR hS hl hc)
  · have hi0 : ((x.toInt - lo).toNat : Int) = x.toInt - lo := by omega
    have hlt : (x.toInt - lo).toNat < offs.size := by omega
    obtain ⟨tgt, h1, h2⟩ := kin (x.toInt - lo).toNat _ (Array.getElem?_eq_getElem hlt) (by omega)
    exact lv_tableIn X.1 X.2.1 hd (by omega) (by omega) (Array.getElem?_eq_getElem hlt) h1 (h2 H locs ls hn hR hS hl hc)
theorem m_objInit (X : CX w p R s m args c cc nL own lev) {pc idx a : Nat} {S : SpS} {lv st : List Value} {h : AH} (hd : decode cc pc = .ok (.invokespecial idx, 3)) (hlev : 1 ≤ lev) (hlink : Cond.methodLink own idx Lib.objectInit ∈ gT) (hst : (st.map fun v => v.category).sum ≤ 8) (kk : M w p l e R s m args below meth c nL n0 s0 Q (pc + 3) S lv st h) : M w p l e R s m args below meth c nL n0 s0 Q pc S lv (.ref a :: st) h := by
  intro H locs ls hn hR hS hl hc
  have hts := X.2.2.2.2.1
  have hR36 := X.2.2.2.2.2.2.2
  have hcat := cat_map w st
  refine W.objInit X.1 X.2.1 X.2.2.2.1 (hts _ hlink) (hts _ w_oiI) (hts _ w_oiC) rfl (by rw [X.2.2.1]; exact hl.1) rfl hd (by omega) ?_ (kk H locs ls hn hR hS hl hc)
  show 2 * 0 + _ + 12 ≤ _
  omega
/-! ===== contracts ===== -/
abbrev SpT : Type := SpS → List Value → AH → (Option Value → SpS → AH → Prop) → Prop
def rmL (lev mc ms : Nat) : Room := { frames := lev, cells := mc, slots := ms, locals := 36 * lev }
def Pcx (w : Wld) (S : SpS) (h : AH) (as : List Value) : Array Value → State → Prop := fun v U => v = (as.map (tv w)).toArray ∧ Rl w S h U.heap ∧ Kn w U
def Qcx (w : Wld) (S : SpS) (mc ms : Nat) (K : Option Value → SpS → AH → Prop) : Array Value → State → Outcome → State → Prop := fun _ st o t => (∃ (v : Option Value) (S' : SpS) (h' : AH), o = .returned (v.map (tv w)) ∧ K v S' h' ∧ Rl w S' h' t.heap ∧ nC S' = nC S + mc ∧ sC S' = sC S + ms) ∧ va_F (A0 w) st t
def Ct (l : Launch) (y : MethodName) (bytes : ByteArray) (maxL : Nat) (ret : Option FieldType) (lev mc ms : Nat) (Sp : SpT) : Prop :=
  ∀ (w : Wld) (S : SpS) (as : List Value) (h : AH) (K : Option Value → SpS → AH → Prop), Sp S as h K → Met l y (Cond.code y bytes maxL ret :: gT) (rmL lev mc ms) (Pcx w S h as) (Qcx w S mc ms K) mc ms (A0 w)
theorem Pcx_blind (w : Wld) (S : SpS) (h : AH) (as : List Value) : FrameBlind (Pcx w S h as) := fun a U g mk q => ⟨q.1, q.2.1, Kn_same (U := U.calling g mk a) q.2.2 rfl rfl⟩
theorem tbl_good : ∀ u ∈ gT, (u.onTables && u.keeps) = true ∨ ∃ ty, u = .arrayClass ty := fun u hu => good_of_word (List.mem_filter.mp hu).2
theorem ct_good {y : MethodName} {bytes : ByteArray} {maxL : Nat} {ret : Option FieldType} (hc : Cond.code y bytes maxL ret ∈ gT) : GoodIn gT (Cond.code y bytes maxL ret :: gT) := by
  intro u hu
  rcases List.mem_cons.mp hu with rfl | hu
  · exact ⟨hc, tbl_good _ hc⟩
  · exact ⟨hu, tbl_good _ hu⟩
/-- what the tables say of a method: of an instance, static, a constructor -/
def YB (y : MethodName) (bytes : ByteArray) (maxL : Nat) (ret : Option FieldType) (n : Nat) : Prop := Cond.code y bytes maxL ret ∈ gT ∧ Cond.initialized y.cls ∈ gT ∧ (y.cls ≠ "java/lang/invoke/MethodHandle" ∧ y.cls ≠ "java/lang/invoke/VarHandle") ∧ (parseMethodDescriptor y.desc).map (fun d => d.parameters.length) = some n ∧ maxL ≤ 17
def YV (y : MethodName) (bytes : ByteArray) (maxL : Nat) (ret : Option FieldType) (n ci : Nat) : Prop := YB y bytes maxL ret n ∧ Cond.instanceMethod y ∈ gT ∧ Cond.selects y.cls y y ∈ gT ∧ (vwCl[ci]?).map (fun q => q.1) = some y.cls
def YS (y : MethodName) (bytes : ByteArray) (maxL : Nat) (ret : Option FieldType) (n : Nat) : Prop := YB y bytes maxL ret n ∧ Cond.static y ∈ gT
def YI (y : MethodName) (bytes : ByteArray) (maxL n : Nat) : Prop := YB y bytes maxL none n ∧ Cond.instanceMethod y ∈ gT ∧ y.name = "<init>"
theorem yb_cb {y : MethodName} {bytes : ByteArray} {maxL lev' mc ms n idx : Nat} {ret : Option FieldType} (X : CX w p R s m args c cc nL own lev) (hY : YB y bytes maxL ret n) (hlev : lev' + 1 ≤ lev) (hlink : Cond.methodLink own idx y ∈ gT) : CallB R s args own idx y bytes maxL ret (Cond.code y bytes maxL ret :: gT) (rmL lev' mc ms) mc ms n := by
  obtain ⟨h1, h2, h3, h4, h5⟩ := hY
  have hts := X.2.2.2.2.1
  have hR36 := X.2.2.2.2.2.2.2
  exact callB_of n hts (ct_good h1) rfl rfl rfl (hts _ h2) (hts _ hlink) ⟨h3.1, h3.2, h4⟩ ⟨by show lev' + 1 ≤ _; omega, by show 8 + (maxL + 11) + 36 * lev' ≤ _; omega⟩
theorem m_after (X : CX w p R s m args c cc nL own lev) {pc mc ms : Nat} {S : SpS} {lv st : List Value} {st0 : List Value} {a : Array Value} {K : Option Value → SpS → AH → Prop} {H : Heap} {locs : List Loc} {ls : Array Slot} (hn : lv.length = nL) (hS : va_S (A0 w) s.heap H locs) (hl : lv_has ls nL (lvs w 0 lv)) (hc : n0 ≤ nC S + kkC w ∧ nC S + kkC w ≤ n0 + R.cells ∧ s0 ≤ sC S + kkS w ∧ sC S + kkS w ≤ s0 + R.slots) (hcap : nC S + kkC w + mc ≤ n0 + R.cells ∧ sC S + kkS w + ms ≤ s0 + R.slots)
    (hr : va_Run p l e R s m args below meth c H locs (nC S + kkC w - n0) (sC S + kkS w - s0) mc ms (F0 m pc ls st0) (st.map (tv w)) (Qcx w S mc ms K a) (A0 w))
    (kk : ∀ v S' h', K v S' h' → M w p l e R s m args below meth c nL n0 s0 Q (pc + 3) S' lv (v.toList ++ st) h') : W p l e R s m args below meth c H locs (nC S + kkC w - n0) (sC S + kkS w - s0) Q (F0 m pc ls st0) := by
  intro T hT XX
  obtain ⟨v, st₀, t, T', L, h0, X', hL, e1, e2, ⟨⟨v', S', h', hv, hK, hR', hn', hs'⟩, hz, hk⟩, stp⟩ := hr T hT XX
  have hv2 : v = v'.map (tv w) := Outcome.returned.inj hv
  subst hv2
  rw [h0] at hz hk
  have k2 := kk v' S' h' hK T'.heap (locs ++ L) ls hn (by rw [e1]; exact hR') ⟨Nat.le_trans hS.1 (by rw [e1]; exact hz), fun q h1 h2 => by rw [e1, hk q (Nat.lt_of_lt_of_le h1 hS.1) h2]; exact hS.2.1 q h1 h2, fun q hq => by
      rcases List.mem_append.mp hq with g | g
      · exact hS.2.2 q g
      · exact hL q g⟩ hl (by omega)
  rw [show nC S' + kkC w - n0 = nC S + kkC w - n0 + mc by omega, show sC S' + kkS w - s0 = sC S + kkS w - s0 + ms by omega] at k2
  obtain ⟨t2, a1, b1⟩ := k2 T' rfl X'
  refine ⟨t2, stp t2 ?_, b1⟩
  have es : (v'.map (tv w)).toList ++ st.map (tv w) = (v'.toList ++ st).map (tv w) := by cases v' <;> simp
  rw [es]
  exact a1
theorem m_callV (X : CX w p R s m args c cc nL own lev) {pc idx b ci mc ms n lev' maxL : Nat} {y : MethodName} {bytes : ByteArray} {ret : Option FieldType} {Sp : SpT} {As : List Value} {S : SpS} {lv st : List Value} {h : AH} (hd : decode cc pc = .ok (.invokevirtual idx, 3)) (hCt : Ct l y bytes maxL ret lev' mc ms Sp) (hY : YV y bytes maxL ret n ci) (hlev : lev' + 1 ≤ lev) (hlink : Cond.methodLink own idx y ∈ gT) (hn1 : As.length = n) (ht : (tC S b).1 = ci) (hst : (st.map fun v => v.category).sum ≤ 8) (hcap : nC S + kkC w + mc ≤ n0 + R.cells ∧ sC S + kkS w + ms ≤ s0 + R.slots)
    (kk : Sp S (.ref b :: As) h (fun v S' h' => M w p l e R s m args below meth c nL n0 s0 Q (pc + 3) S' lv (v.toList ++ st) h')) : M w p l e R s m args below meth c nL n0 s0 Q pc S lv (As.reverse ++ .ref b :: st) h := by
  intro H locs ls hn hR hS hl hc
  obtain ⟨hB, hi, hs, hcn⟩ := hY
  obtain ⟨r, hr1, hr2⟩ : ∃ r, vwCl[ci]? = some r ∧ r.1 = y.cls := by
    cases hv : vwCl[ci]? with
    | none => rw [hv] at hcn; cases hcn
    | some r => rw [hv] at hcn; exact ⟨r, rfl, Option.some.inj hcn⟩
  have hci := cls_lt hr1
  obtain ⟨ha, had⟩ := Rl_in hR (c := b) (by omega)
  have he := wsO_at (w := w) (S := S) (h := h) ha
  rw [ent_obj ht (by omega)] at he
  have hrec := va_recv X.2.2.2.2.2.1.1 hR.2.2.2 hr1 he
  rw [hr2] at hrec
  have hts := X.2.2.2.2.1
  have hcat := cat_map w st
  have hrun := va_runV (meth := meth) (R := R) (cells := nC S + kkC w - n0) (slots := sC S + kkS w - s0) (locs := locs) (below := below) (e := e) (As := As.map (tv w)) (rest := st.map (tv w)) (g := F0 m pc ls ((As.map (tv w)).reverse ++ .ref (w.1 + b) :: st.map (tv w))) ⟨X.1, X.2.1, X.2.2.1, X.2.2.2.1, hts⟩ (hCt w S (.ref b :: As) h _ kk) ⟨yb_cb X hB hlev hlink, hts _ hi, hts _ hs⟩ (b := w.1 + b) (C := y.cls) (H := H)
    ⟨Pcx_blind w S h _, hrec, fun U hU hW => ⟨by rw [List.map_cons, show tv w (.ref b) = .ref (w.1 + b) by show Value.ref (ad w b) = _; rw [had]], by rw [hU]; exact hR, Kn_warm X.2.2.2.2.2.1 hS hU hW⟩⟩ rfl (by simpa using hn1) hl.1 rfl (lv_room (by omega)) hd (by omega)
  rw [List.map_append, List.map_cons, List.map_reverse, show tv w (.ref b) = .ref (w.1 + b) by show Value.ref (ad w b) = _; rw [had]]
  exact m_after X hn hS hl hc hcap hrun (fun v S' h' q => q)
theorem m_callS (X : CX w p R s m args c cc nL own lev) {pc idx mc ms n lev' maxL : Nat} {y : MethodName} {bytes : ByteArray} {ret : Option FieldType} {Sp : SpT} {As : List Value} {S : SpS} {lv st : List Value} {h : AH} (hd : decode cc pc = .ok (.invokestatic idx, 3)) (hCt : Ct l y bytes maxL ret lev' mc ms Sp) (hY : YS y bytes maxL ret n) (hlev : lev' + 1 ≤ lev) (hlink : Cond.methodLink own idx y ∈ gT) (hn1 : As.length = n) (hst : (st.map fun v => v.category).sum ≤ 8) (hcap : nC S + kkC w + mc ≤ n0 + R.cells ∧ sC S + kkS w + ms ≤ s0 + R.slots)
    (kk : Sp S As h (fun v S' h' => M w p l e R s m args below meth c nL n0 s0 Q (pc + 3) S' lv (v.toList ++ st) h')) : M w p l e R s m args below meth c nL n0 s0 Q pc S lv (As.reverse ++ st) h := by
  intro H locs ls hn hR hS hl hc
  obtain ⟨hB, hi⟩ := hY
  have hts := X.2.2.2.2.1
  have hcat := cat_map w st
  have hrun := va_runS (meth := meth) (R := R) (cells := nC S + kkC w - n0) (slots := sC S + kkS w - s0) (locs := locs) (below := below) (e := e) (As := As.map (tv w)) (rest := st.map (tv w)) (g := F0 m pc ls ((As.map (tv w)).reverse ++ st.map (tv w))) ⟨X.1, X.2.1, X.2.2.1, X.2.2.2.1, hts⟩ (hCt w S As h _ kk) ⟨yb_cb X hB hlev hlink, hts _ hi⟩ (H := H)
    ⟨Pcx_blind w S h _, fun U hU hW => ⟨rfl, by rw [hU]; exact hR, Kn_warm X.2.2.2.2.2.1 hS hU hW⟩⟩ rfl (by simpa using hn1) hl.1 rfl (lv_room (by omega)) hd (by omega)
  rw [List.map_append, List.map_reverse]
  exact m_after X hn hS hl hc hcap hrun (fun v S' h' q => q)
theorem m_callI (X : CX w p R s m args c cc nL own lev) {pc idx b mc ms n lev' maxL : Nat} {y : MethodName} {bytes : ByteArray} {Sp : SpT} {As : List Value} {S : SpS} {lv st : List Value} {h : AH} (hd : decode cc pc = .ok (.invokespecial idx, 3)) (hCt : Ct l y bytes maxL none lev' mc ms Sp) (hY : YI y bytes maxL n) (hlev : lev' + 1 ≤ lev) (hlink : Cond.methodLink own idx y ∈ gT) (hn1 : As.length = n) (ht : (tC S b).1 ≠ 99) (hst : (st.map fun v => v.category).sum ≤ 8) (hcap : nC S + kkC w + mc ≤ n0 + R.cells ∧ sC S + kkS w + ms ≤ s0 + R.slots)
    (kk : Sp S (.ref b :: As) h (fun v S' h' => M w p l e R s m args below meth c nL n0 s0 Q (pc + 3) S' lv (v.toList ++ st) h')) : M w p l e R s m args below meth c nL n0 s0 Q pc S lv (As.reverse ++ .ref b :: st) h := by
  intro H locs ls hn hR hS hl hc
  obtain ⟨hB, hi, hnm⟩ := hY
  obtain ⟨ha, had⟩ := Rl_in hR (c := b) ht
  have hts := X.2.2.2.2.1
  have hcat := cat_map w st
  have hrun := va_runI (meth := meth) (R := R) (cells := nC S + kkC w - n0) (slots := sC S + kkS w - s0) (locs := locs) (below := below) (e := e) (As := As.map (tv w)) (rest := st.map (tv w)) (g := F0 m pc ls ((As.map (tv w)).reverse ++ .ref (w.1 + b) :: st.map (tv w))) ⟨X.1, X.2.1, X.2.2.1, X.2.2.2.1, hts⟩ (hCt w S (.ref b :: As) h _ kk) ⟨yb_cb X hB hlev hlink, hnm, hts _ hi⟩ (b := w.1 + b) (H := H)
    ⟨Pcx_blind w S h _, fun U hU hW => ⟨by rw [List.map_cons, show tv w (.ref b) = .ref (w.1 + b) by show Value.ref (ad w b) = _; rw [had]], by rw [hU]; exact hR, Kn_warm X.2.2.2.2.2.1 hS hU hW⟩⟩ rfl (by simpa using hn1) hl.1 rfl (lv_room (by omega)) hd (by omega)
  rw [List.map_append, List.map_cons, List.map_reverse, show tv w (.ref b) = .ref (w.1 + b) by show Value.ref (ad w b) = _; rw [had]]
  exact m_after X hn hS hl hc hcap hrun (fun v S' h' q => q)
end MC
