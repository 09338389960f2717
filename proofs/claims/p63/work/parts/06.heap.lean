/-! ===== classes of the world ===== -/
theorem cls_lt {ci : Nat} {r : vw_C} (h : vwCl[ci]? = some r) : ci < 6 := by
  have := (List.getElem?_eq_some_iff.mp h).1
  simpa using this
theorem cls_in {ci : Nat} {r : vw_C} (h : vwCl[ci]? = some r) : ∀ u ∈ u_ws r.1 r.2.1 r.2.2, u ∈ gT := by
  have hl := cls_lt h
  rcases (show ci = 0 ∨ ci = 1 ∨ ci = 2 ∨ ci = 3 ∨ ci = 4 ∨ ci = 5 by omega) with rfl | rfl | rfl | rfl | rfl | rfl <;> cases h <;> decide +kernel
theorem cls_nm {ci : Nat} {r : vw_C} (h : vwCl[ci]? = some r) : ∀ a, a < r.2.2 → ∀ b, b < r.2.2 → a ≠ b → (r.2.1 a).2.1 ≠ (r.2.1 b).2.1 := by
  have hl := cls_lt h
  rcases (show ci = 0 ∨ ci = 1 ∨ ci = 2 ∨ ci = 3 ∨ ci = 4 ∨ ci = 5 by omega) with rfl | rfl | rfl | rfl | rfl | rfl <;> cases h <;> decide +kernel
theorem cls_ty {ci : Nat} {r : vw_C} (h : vwCl[ci]? = some r) : ∃ ty : Nat → FieldType, ∀ k, k < r.2.2 → parseFieldDescriptor (r.2.1 k).2.2.1 = some (ty k) := by
  have hl := cls_lt h
  rcases (show ci = 0 ∨ ci = 1 ∨ ci = 2 ∨ ci = 3 ∨ ci = 4 ∨ ci = 5 by omega) with rfl | rfl | rfl | rfl | rfl | rfl <;> cases h
  · exact ⟨_, tyX0_ok⟩
  · exact ⟨_, tyX1_ok⟩
  · exact ⟨_, tyX2_ok⟩
  · exact ⟨_, tyX3_ok⟩
  · exact ⟨_, tyX4_ok⟩
  · exact ⟨_, tyX5_ok⟩
theorem cls_own {ci : Nat} {r : vw_C} (h : vwCl[ci]? = some r) : ∀ k, k < r.2.2 → (r.2.1 k).1 = r.1 := by
  have hl := cls_lt h
  rcases (show ci = 0 ∨ ci = 1 ∨ ci = 2 ∨ ci = 3 ∨ ci = 4 ∨ ci = 5 by omega) with rfl | rfl | rfl | rfl | rfl | rfl <;> cases h <;> decide +kernel
theorem cls_nF {ci : Nat} {r : vw_C} (h : vwCl[ci]? = some r) : r.2.2 = nF ci := by
  have hl := cls_lt h
  rcases (show ci = 0 ∨ ci = 1 ∨ ci = 2 ∨ ci = 3 ∨ ci = 4 ∨ ci = 5 by omega) with rfl | rfl | rfl | rfl | rfl | rfl <;> cases h <;> rfl
/-- is the field boolean -/
def bF (ci k : Nat) : Bool := (ci == 5 && k == 3)
def ftI (ci k : Nat) : FieldType := if bF ci k = true then .boolean else .int
theorem cls_int {ci : Nat} {r : vw_C} (h : vwCl[ci]? = some r) : ∀ k, k < r.2.2 → fI ci k = true → (r.2.1 k).2.2.2 = false ∧ parseFieldDescriptor (r.2.1 k).2.2.1 = some (ftI ci k) := by
  have hl := cls_lt h
  rcases (show ci = 0 ∨ ci = 1 ∨ ci = 2 ∨ ci = 3 ∨ ci = 4 ∨ ci = 5 by omega) with rfl | rfl | rfl | rfl | rfl | rfl <;> cases h <;> decide +kernel
def isRefT (t : FieldType) : Bool := match t with
  | .object _ => true
  | .array _ => true
  | _ => false
theorem cls_ref {ci : Nat} {r : vw_C} (h : vwCl[ci]? = some r) : ∀ k, k < r.2.2 → fI ci k = false → (r.2.1 k).2.2.2 = true ∧ (parseFieldDescriptor (r.2.1 k).2.2.1).map isRefT = some true := by
  have hl := cls_lt h
  rcases (show ci = 0 ∨ ci = 1 ∨ ci = 2 ∨ ci = 3 ∨ ci = 4 ∨ ci = 5 by omega) with rfl | rfl | rfl | rfl | rfl | rfl <;> cases h <;> decide +kernel
/-- a field's link, as a class of the program has it in its pool -/
def FL (own : String) (idx ci k : Nat) : Prop := ∃ r : vw_C, vwCl[ci]? = some r ∧ k < r.2.2 ∧ Cond.fieldLink own idx (r.2.1 k).1 (r.2.1 k).2.1 (r.2.1 k).2.2.1 ∈ gT
theorem ent_obj {w : Wld} {S : SpS} {h : AH} {c ci : Nat} (ht : (tC S c).1 = ci) (hc : ci < 10) : ent w S h c = .inr (ci, (List.range (nF ci)).map (fV w S h c ci)) := by
  subst ht
  unfold ent
  rw [if_neg (by omega), if_neg (by omega), if_neg (by omega), if_neg (by omega)]
theorem ent_i {w : Wld} {S : SpS} {h : AH} {c : Nat} (ht : (tC S c).1 = 10) : ent w S h c = .inl (w.2.2.2 0, (tC S c).2, .inl (gI h c)) := by
  unfold ent
  rw [if_pos ht]
theorem ent_l {w : Wld} {S : SpS} {h : AH} {c : Nat} (ht : (tC S c).1 = 11) : ent w S h c = .inl (w.2.2.2 1, (tC S c).2, .inr (.inl (gJ h c))) := by
  unfold ent
  rw [if_neg (by omega), if_pos ht]
theorem ent_q {w : Wld} {S : SpS} {h : AH} {c : Nat} (ht : (tC S c).1 = 12) : ent w S h c = .inl (w.2.2.2 2, (tC S c).2, .inr (.inr (.inr (.inr (fun j => ro w (rC S c j)))))) := by
  unfold ent
  rw [if_neg (by omega), if_neg (by omega), if_pos ht]
theorem ent_r {w : Wld} {S : SpS} {h : AH} {c : Nat} (ht : (tC S c).1 = 13) : ent w S h c = .inl (w.2.2.2 3, (tC S c).2, .inr (.inr (.inr (.inr (fun j => ro w (rC S c j)))))) := by
  unfold ent
  rw [if_neg (by omega), if_neg (by omega), if_neg (by omega), if_pos ht]
theorem ad_lt {w : Wld} {n : Nat} (h : n < 100000) : ad w n = w.1 + n := if_pos h
theorem Rl_in {w : Wld} {S : SpS} {h : AH} {H : Heap} (hR : Rl w S h H) {c : Nat} (ht : (tC S c).1 ≠ 99) : c < nC S ∧ ad w c = w.1 + c := by
  have h1 := hR.2.2.1 c ht
  exact ⟨h1, ad_lt (Nat.lt_of_lt_of_le h1 hR.2.1)⟩
theorem Rl_set {w : Wld} {S S' : SpS} {h h' : AH} {H H' : Heap} {c : Nat} (hR : Rl w S h H) (hn : nC S' = nC S) (ht : ∀ c, tC S' c = tC S c) (hat : va_at w.2.2.1 vwCl (w.1 + c, ent w S' h' c) H') (hz : H'.size = H.size) (oq : ∀ q : Nat, q ≠ w.1 + c → H'[q]? = H[q]?) (ho : ∀ c', c' ≠ c → ent w S' h' c' = ent w S h c') : Rl w S' h' H' := by
  refine ⟨by rw [hz, hn]; exact hR.1, by rw [hn]; exact hR.2.1, fun c' hc' => by rw [hn]; exact hR.2.2.1 c' (by rw [← ht]; exact hc'), fun k q hk => ?_⟩
  have hl : k < nC S' := by
    have := (List.getElem?_eq_some_iff.mp hk).1
    simpa [wsO] using this
  rw [wsO_at hl] at hk
  cases hk
  by_cases hkc : k = c
  · subst hkc
    exact hat
  · rw [ho k hkc]
    have := hR.2.2.2 k _ (wsO_at (w := w) (h := h) (S := S) (by rw [← hn]; exact hl))
    exact this.kept (oq _ (by show w.1 + k ≠ w.1 + c; omega))
theorem Rl_new {w : Wld} {S S' : SpS} {h h' : AH} {H H' : Heap} (hR : Rl w S h H) (hn : nC S' = nC S + 1) (hb : nC S + 1 ≤ 100000) (ht : ∀ c, c ≠ nC S → (tC S' c).1 ≠ 99 → (tC S c).1 ≠ 99) (hat : va_at w.2.2.1 vwCl (w.1 + nC S, ent w S' h' (nC S)) H') (hz : H'.size = H.size + 1) (oq : ∀ q : Nat, q < H.size → H'[q]? = H[q]?) (ho : ∀ c', c' < nC S → ent w S' h' c' = ent w S h c') : Rl w S' h' H' := by
  have hH := hR.1
  refine ⟨by rw [hz, hn, hH]; omega, by rw [hn]; exact hb, fun c' hc' => ?_, fun k q hk => ?_⟩
  · rw [hn]
    by_cases e : c' = nC S
    · omega
    · have := hR.2.2.1 c' (ht c' e hc')
      omega
  · have hl : k < nC S' := by
      have := (List.getElem?_eq_some_iff.mp hk).1
      simpa [wsO] using this
    rw [wsO_at hl] at hk
    cases hk
    by_cases hkc : k = nC S
    · subst hkc
      exact hat
    · have hk2 : k < nC S := by omega
      rw [ho k hk2]
      have := hR.2.2.2 k _ (wsO_at (w := w) (h := h) (S := S) hk2)
      exact this.kept (oq _ (by show w.1 + k < H.size; omega))
section MH
variable {w : Wld} {p : Program} {l : Launch} {e : Env} {R : Room} {s : State} {m : MethodId} {args : Array Value} {below : List Frame} {meth : Method} {c : Code} {cc : ByteArray} {nL n0 s0 lev : Nat} {own : String} {Q : State → Prop}
theorem m_getv (X : CX w p R s m args c cc nL own lev) {pc idx ci k a : Nat} {S : SpS} {lv st : List Value} {h : AH} {v : Value} (hd : decode cc pc = .ok (.getfield idx, 3)) (hF : FL own idx ci k) (ht : (tC S a).1 = ci) (hv : fV w S h a ci k = tv w v) (kk : M w p l e R s m args below meth c nL n0 s0 Q (pc + 3) S lv (v :: st) h) : M w p l e R s m args below meth c nL n0 s0 Q pc S lv (.ref a :: st) h := by
  intro H locs ls hn hR hS hl hc
  obtain ⟨r, h1, h2, h3⟩ := hF
  have hci := cls_lt h1
  obtain ⟨ha, had⟩ := Rl_in hR (c := a) (by omega)
  have he := wsO_at (w := w) (S := S) (h := h) ha
  rw [ent_obj ht (by omega)] at he
  rw [List.map_cons, show tv w (.ref a) = .ref (w.1 + a) by show Value.ref (ad w a) = _; rw [had]]
  refine va_get X.1 X.2.1 (Ts := gT) X.2.2.2.2.1 (cls_in h1) X.2.2.2.1 X.2.2.2.2.2.1.1 hR.2.2.2 a he (by rw [h1]) k h2 (X.2.2.2.2.1 _ h3) (fun x hx => hx) (v := tv w v) ?_ hd (kk H locs ls hn hR hS hl hc)
  rw [← hv, List.getElem?_map, List.getElem?_range (by rw [← cls_nF h1]; exact h2)]
  rfl
theorem m_getI (X : CX w p R s m args c cc nL own lev) {pc idx ci k a : Nat} {S : SpS} {lv st : List Value} {h : AH} (hd : decode cc pc = .ok (.getfield idx, 3)) (hF : FL own idx ci k) (ht : (tC S a).1 = ci) (hf : fI ci k = true) (kk : M w p l e R s m args below meth c nL n0 s0 Q (pc + 3) S lv (.int (gI h a k) :: st) h) : M w p l e R s m args below meth c nL n0 s0 Q pc S lv (.ref a :: st) h :=
  m_getv X hd hF ht (by unfold fV; rw [if_pos hf]; rfl) kk
theorem m_getR (X : CX w p R s m args c cc nL own lev) {pc idx ci k a : Nat} {S : SpS} {lv st : List Value} {h : AH} (hd : decode cc pc = .ok (.getfield idx, 3)) (hF : FL own idx ci k) (ht : (tC S a).1 = ci) (hf : fI ci k = false) (kk : M w p l e R s m args below meth c nL n0 s0 Q (pc + 3) S lv (rv (rC S a k) :: st) h) : M w p l e R s m args below meth c nL n0 s0 Q pc S lv (.ref a :: st) h :=
  m_getv X hd hF ht (by unfold fV; rw [if_neg (by rw [hf]; simp)]) kk
theorem ent_pI {w : Wld} {S : SpS} {h : AH} {a k : Nat} {v : Int32} {c' : Nat} (hc : c' ≠ a) : ent w S (pI h a k v) c' = ent w S h c' := by
  have e1 : gI (pI h a k v) c' = gI h c' := by funext j; simp [gI, pI, hc]
  have e2 : gJ (pI h a k v) c' = gJ h c' := rfl
  have e3 : ∀ ci, fV w S (pI h a k v) c' ci = fV w S h c' ci := by
    intro ci
    funext j
    unfold fV
    rw [e1]
  unfold ent
  rw [e1, e2, e3]
theorem ent_pJ {w : Wld} {S : SpS} {h : AH} {a k : Nat} {v : Int64} {c' : Nat} (hc : c' ≠ a) : ent w S (pJ h a k v) c' = ent w S h c' := by
  have e1 : gJ (pJ h a k v) c' = gJ h c' := by funext j; simp [gJ, pJ, hc]
  have e3 : ∀ ci, fV w S (pJ h a k v) c' ci = fV w S h c' ci := by
    intro ci
    rfl
  unfold ent
  rw [e1, e3]
  rfl
theorem ent_rowI {w : Wld} {S : SpS} {h : AH} {a : Nat} {f : Nat → Int32} {c' : Nat} (hc : c' ≠ a) : ent w S (rowI h a f) c' = ent w S h c' := by
  have e1 : gI (rowI h a f) c' = gI h c' := by funext j; simp [gI, rowI, hc]
  have e2 : gJ (rowI h a f) c' = gJ h c' := rfl
  have e3 : ∀ ci, fV w S (rowI h a f) c' ci = fV w S h c' ci := by
    intro ci
    funext j
    unfold fV
    rw [e1]
  unfold ent
  rw [e1, e2, e3]
theorem ent_rowJ {w : Wld} {S : SpS} {h : AH} {a : Nat} {f : Nat → Int64} {c' : Nat} (hc : c' ≠ a) : ent w S (rowJ h a f) c' = ent w S h c' := by
  have e1 : gJ (rowJ h a f) c' = gJ h c' := by funext j; simp [gJ, rowJ, hc]
  have e3 : ∀ ci, fV w S (rowJ h a f) c' ci = fV w S h c' ci := by
    intro ci
    rfl
  unfold ent
  rw [e1, e3]
  rfl
theorem ent_pR {w : Wld} {S : SpS} {h : AH} {a k x : Nat} {c' : Nat} (hc : c' ≠ a) : ent w (pR S a k x) h c' = ent w S h c' := by
  have e1 : rC (pR S a k x) c' = rC S c' := by funext j; simp [rC, pR, hc]
  have e2 : tC (pR S a k x) c' = tC S c' := rfl
  have e3 : ∀ ci, fV w (pR S a k x) h c' ci = fV w S h c' ci := by
    intro ci
    funext j
    unfold fV
    rw [e1]
  unfold ent
  rw [e1, e2, e3]
theorem obj_put {w : Wld} {S S' : SpS} {h h' : AH} {a k : Nat} {ci : Nat} {v : Value} (hk : k < nF ci) (hv : fV w S' h' a ci k = v) (ho : ∀ j, j ≠ k → fV w S' h' a ci j = fV w S h a ci j) : ((List.range (nF ci)).map (fV w S h a ci)).set k v = (List.range (nF ci)).map (fV w S' h' a ci) := by
  apply List.ext_getElem?
  intro j
  by_cases hj : j < nF ci
  · by_cases e : j = k
    · subst e
      rw [List.getElem?_set_self (by simpa using hj), List.getElem?_map, List.getElem?_range hj, ← hv]
      rfl
    · rw [List.getElem?_set_ne (Ne.symm e), List.getElem?_map, List.getElem?_map, List.getElem?_range hj]
      simp [ho j e]
  · rw [List.getElem?_eq_none (by simp; omega), List.getElem?_eq_none (by simp; omega)]
theorem nf_ok {ci k : Nat} {x : Int32} (hb : bF ci k = true → x = 0 ∨ x = 1) : narrow (ftI ci k) (.int x) = .int x ∧ fits (ftI ci k) (.int x) = true := by
  unfold ftI
  by_cases b : bF ci k = true
  · rw [if_pos b]
    rcases hb b with rfl | rfl
    · exact ⟨by decide, by decide⟩
    · exact ⟨by decide, by decide⟩
  · rw [if_neg b]
    exact ⟨rfl, rfl⟩
theorem m_putI (X : CX w p R s m args c cc nL own lev) {pc idx ci k a : Nat} {x : Int32} {S : SpS} {lv st : List Value} {h : AH} (hd : decode cc pc = .ok (.putfield idx, 3)) (hF : FL own idx ci k) (ht : (tC S a).1 = ci) (hf : fI ci k = true) (hb : bF ci k = true → x = 0 ∨ x = 1) (kk : M w p l e R s m args below meth c nL n0 s0 Q (pc + 3) S lv st (pI h a k x)) : M w p l e R s m args below meth c nL n0 s0 Q pc S lv (.int x :: .ref a :: st) h := by
  intro H locs ls hn hR hS hl hc
  obtain ⟨r, h1, h2, h3⟩ := hF
  have hci := cls_lt h1
  obtain ⟨ha, had⟩ := Rl_in hR (c := a) (by omega)
  have he := wsO_at (w := w) (S := S) (h := h) ha
  rw [ent_obj ht (by omega)] at he
  rw [List.map_cons, List.map_cons, show tv w (.ref a) = .ref (w.1 + a) by show Value.ref (ad w a) = _; rw [had]]
  have hts := X.2.2.2.2.1
  have hK := X.2.2.2.2.2.1.1
  obtain ⟨ty0, hty⟩ := cls_ty h1
  have hap := va_apart (own := own) hts (cls_in h1) ty0 hty (cls_nm h1) hK (by rw [h1])
  obtain ⟨r', g1, cell, q1, q2, q3, q4⟩ := hR.2.2.2 a _ he
  have hr : r' = r := Option.some.inj (g1.symm.trans h1)
  subst hr
  obtain ⟨hSl, hfc, kC, hkC, hkind⟩ := hK.1 ci _ h1
  obtain ⟨cf, kf, fi, f, hi, hsl⟩ := hSl k h2
  obtain ⟨i1, i2⟩ := cls_int h1 k h2 hf
  have hlay := hts _ (cls_in h1 _ (u_in_lay h2))
  unfold u_lay at hlay
  rw [if_neg (by rw [i1]; decide)] at hlay
  have hst := (u_facts hfc hkC (u_lays hts (cls_in h1) h2) hi).1
  have hnf := nf_ok (ci := ci) (k := k) (x := x) hb
  have h6 := u_store hfc hkC hkind hlay hi i2 hnf.1 hnf.2
  refine W.putK X.1 X.2.1 (f := f) ⟨X.2.2.2.1, hts _ h3, ⟨_, _, _, hi⟩, hst⟩ (by rw [q2]; exact h6) q1 q3 (by rw [hsl]; exact k2_hasslot (q4 k h2)) rfl rfl hd fun H' e1 e2 e3 => ?_
  rw [hsl] at e1 ⊢
  have hnF := cls_nF h1
  refine kk H' _ ls hn (Rl_set (c := a) hR rfl (fun _ => rfl) ?_ e2 e3 (fun c' hc' => ent_pI hc')) (hS.put e2 e3 (by show w.2.1 16 ≤ w.1 + a; have := X.2.2.2.2.2.2.1; omega)) hl hc
  rw [ent_obj ht (by omega), ← obj_put (S := S) (h := h) (k := k) (v := .int x) (by rw [← hnF]; exact h2) (by unfold fV; rw [if_pos hf]; simp [gI, pI]) (fun j hj => by unfold fV; simp [gI, pI, hj])]
  exact ⟨_, h1, t_OB.to (V := updV (vp_V _) k (.int x)) ⟨_, e1, q2, q3, t_set q4 hap h2 _⟩ (fun j _ => vp_updV_set (by simpa using (by rw [← hnF]; exact h2 : k < nF ci)) _ j)⟩
theorem m_putR (X : CX w p R s m args c cc nL own lev) {pc idx ci k a b : Nat} {S : SpS} {lv st : List Value} {h : AH} (hd : decode cc pc = .ok (.putfield idx, 3)) (hF : FL own idx ci k) (ho : (vwCl[ci]?).map (fun q => q.1) = some own) (hin2 : meth.name = "<init>") (ht : (tC S a).1 = ci) (hf : fI ci k = false) (kk : M w p l e R s m args below meth c nL n0 s0 Q (pc + 3) (pR S a k (b + 1)) lv st h) : M w p l e R s m args below meth c nL n0 s0 Q pc S lv (.ref b :: .ref a :: st) h := by
  intro H locs ls hn hR hS hl hc
  obtain ⟨r, h1, h2, h3⟩ := hF
  have hci := cls_lt h1
  obtain ⟨ha, had⟩ := Rl_in hR (c := a) (by omega)
  have he := wsO_at (w := w) (S := S) (h := h) ha
  rw [ent_obj ht (by omega)] at he
  rw [List.map_cons, List.map_cons, show tv w (.ref a) = .ref (w.1 + a) by show Value.ref (ad w a) = _; rw [had]]
  have hts := X.2.2.2.2.1
  have hK := X.2.2.2.2.2.1.1
  obtain ⟨ty0, hty⟩ := cls_ty h1
  have hap := va_apart (own := own) hts (cls_in h1) ty0 hty (cls_nm h1) hK (by rw [h1])
  obtain ⟨r', g1, cell, q1, q2, q3, q4⟩ := hR.2.2.2 a _ he
  have hr : r' = r := Option.some.inj (g1.symm.trans h1)
  subst hr
  obtain ⟨hSl, hfc, kC, hkC, hkind⟩ := hK.1 ci _ h1
  obtain ⟨cf, kf, fi, f, hi, hsl⟩ := hSl k h2
  obtain ⟨i1, i2⟩ := cls_ref h1 k h2 hf
  have hlay := hts _ (cls_in h1 _ (u_in_lay h2))
  unfold u_lay at hlay
  rw [if_pos i1] at hlay
  have hst := (u_facts hfc hkC (u_lays hts (cls_in h1) h2) hi).1
  have hdecl : (r'.2.1 k).1 = own := by
    rw [cls_own h1 k h2]
    rw [h1] at ho
    exact Option.some.inj ho
  have hcf : m.cls = cf := by
    obtain ⟨_, _, c', _, _, _, -, -, hf', -, -, -, hown2, -⟩ := Cond.laysFinal_spec hlay
    have e1 : c' = cf := by have := hi.symm.trans hf'; simp at this; exact this.1.symm
    rw [hdecl] at hown2
    rw [← e1]; exact Option.some.inj (X.2.2.2.1.symm.trans hown2)
  have h6 : narrow f.type (tv w (.ref b)) = tv w (.ref b) ∧ s.fitsSlot (w.2.2.1.1 ci) .none f.slot (tv w (.ref b)) = true := by
    cases hp : parseFieldDescriptor (r'.2.1 k).2.2.1 with
    | none => rw [hp] at i2; cases i2
    | some t =>
      rw [hp] at i2
      have i3 : isRefT t = true := Option.some.inj i2
      refine u_fits hfc hkC hkind (Or.inr hlay) hi hp ?_ ?_
      · cases t <;> simp_all [isRefT] <;> rfl
      · cases t <;> simp_all [isRefT] <;> rfl
  refine W.putFinK X.1 X.2.1 X.2.2.2.1 (hts _ h3) hi hst hcf hin2 (by rw [q2]; exact h6) q1 q3 (by rw [hsl]; exact k2_hasslot (q4 k h2)) rfl rfl hd fun H' e1 e2 e3 => ?_
  rw [hsl] at e1 ⊢
  have hnF := cls_nF h1
  refine kk H' _ ls hn (Rl_set (c := a) hR rfl (fun _ => rfl) ?_ e2 e3 (fun c' hc' => ent_pR hc')) (hS.put e2 e3 (by show w.2.1 16 ≤ w.1 + a; have := X.2.2.2.2.2.2.1; omega)) hl hc
  rw [ent_obj (S := pR S a k (b + 1)) (ci := ci) ht (by omega), ← obj_put (S := S) (h := h) (k := k) (v := tv w (.ref b)) (by rw [← hnF]; exact h2) (by unfold fV; rw [if_neg (by rw [hf]; simp)]; simp [rC, pR, rv]) (fun j hj => by unfold fV; simp [rC, pR, hj])]
  exact ⟨_, h1, t_OB.to (V := updV (vp_V _) k (tv w (.ref b))) ⟨_, e1, q2, q3, t_set q4 hap h2 _⟩ (fun j _ => vp_updV_set (by simpa using (by rw [← hnF]; exact h2 : k < nF ci)) _ j)⟩
theorem m_iald (X : CX w p R s m args c cc nL own lev) {pc a : Nat} {i : Int32} {S : SpS} {lv st : List Value} {h : AH} (hd : decode cc pc = .ok (.iaload, 1)) (ht : (tC S a).1 = 10) (hin : vp_in i (tC S a).2) (kk : M w p l e R s m args below meth c nL n0 s0 Q (pc + 1) S lv (.int (gI h a i.toNatClampNeg) :: st) h) : M w p l e R s m args below meth c nL n0 s0 Q pc S lv (.int i :: .ref a :: st) h := by
  intro H locs ls hn hR hS hl hc
  obtain ⟨ha, had⟩ := Rl_in hR (c := a) (by omega)
  have he := wsO_at (w := w) (S := S) (h := h) ha
  rw [ent_i ht] at he
  rw [List.map_cons, List.map_cons, show tv w (.ref a) = .ref (w.1 + a) by show Value.ref (ad w a) = _; rw [had]]
  exact va_iald X.1 X.2.1 X.2.2.2.2.2.1.1 hR.2.2.2 a 0 he rfl hin hd (kk H locs ls hn hR hS hl hc)
theorem m_lald (X : CX w p R s m args c cc nL own lev) {pc a : Nat} {i : Int32} {S : SpS} {lv st : List Value} {h : AH} (hd : decode cc pc = .ok (.laload, 1)) (ht : (tC S a).1 = 11) (hin : vp_in i (tC S a).2) (kk : M w p l e R s m args below meth c nL n0 s0 Q (pc + 1) S lv (.long (gJ h a i.toNatClampNeg) :: st) h) : M w p l e R s m args below meth c nL n0 s0 Q pc S lv (.int i :: .ref a :: st) h := by
  intro H locs ls hn hR hS hl hc
  obtain ⟨ha, had⟩ := Rl_in hR (c := a) (by omega)
  have he := wsO_at (w := w) (S := S) (h := h) ha
  rw [ent_l ht] at he
  rw [List.map_cons, List.map_cons, show tv w (.ref a) = .ref (w.1 + a) by show Value.ref (ad w a) = _; rw [had]]
  exact va_lald X.1 X.2.1 X.2.2.2.2.2.1.1 hR.2.2.2 a 1 he rfl hin hd (kk H locs ls hn hR hS hl hc)
theorem m_aald (X : CX w p R s m args c cc nL own lev) {pc a : Nat} {i : Int32} {S : SpS} {lv st : List Value} {h : AH} (hd : decode cc pc = .ok (.aaload, 1)) (ht : (tC S a).1 = 12 ∨ (tC S a).1 = 13) (hin : vp_in i (tC S a).2) (kk : M w p l e R s m args below meth c nL n0 s0 Q (pc + 1) S lv (rv (rC S a i.toNatClampNeg) :: st) h) : M w p l e R s m args below meth c nL n0 s0 Q pc S lv (.int i :: .ref a :: st) h := by
  intro H locs ls hn hR hS hl hc
  obtain ⟨ha, had⟩ := Rl_in hR (c := a) (by omega)
  have he := wsO_at (w := w) (S := S) (h := h) ha
  have k2 := kk H locs ls hn hR hS hl hc
  rw [List.map_cons, tv_rv] at k2
  rw [List.map_cons, List.map_cons, show tv w (.ref a) = .ref (w.1 + a) by show Value.ref (ad w a) = _; rw [had]]
  rcases ht with ht | ht
  · rw [ent_q ht] at he
    exact va_aldq X.1 X.2.1 X.2.2.2.2.2.1.1 hR.2.2.2 a 2 he rfl hin hd k2
  · rw [ent_r ht] at he
    exact va_aldq X.1 X.2.1 X.2.2.2.2.2.1.1 hR.2.2.2 a 3 he rfl hin hd k2
theorem m_alen (X : CX w p R s m args c cc nL own lev) {pc a : Nat} {S : SpS} {lv st : List Value} {h : AH} (hd : decode cc pc = .ok (.arraylength, 1)) (ht : (tC S a).1 = 10 ∨ (tC S a).1 = 11) (kk : M w p l e R s m args below meth c nL n0 s0 Q (pc + 1) S lv (.int (nI (tC S a).2) :: st) h) : M w p l e R s m args below meth c nL n0 s0 Q pc S lv (.ref a :: st) h := by
  intro H locs ls hn hR hS hl hc
  obtain ⟨ha, had⟩ := Rl_in hR (c := a) (by omega)
  have he := wsO_at (w := w) (S := S) (h := h) ha
  rw [List.map_cons, show tv w (.ref a) = .ref (w.1 + a) by show Value.ref (ad w a) = _; rw [had]]
  rcases ht with ht | ht
  · rw [ent_i ht] at he
    exact va_alen X.1 X.2.1 X.2.2.2.2.2.1.1 hR.2.2.2 a 0 he rfl rfl hd (kk H locs ls hn hR hS hl hc)
  · rw [ent_l ht] at he
    exact va_alen X.1 X.2.1 X.2.2.2.2.2.1.1 hR.2.2.2 a 1 he rfl rfl hd (kk H locs ls hn hR hS hl hc)
theorem m_iast (X : CX w p R s m args c cc nL own lev) {pc a : Nat} {i x : Int32} {S : SpS} {lv st : List Value} {h : AH} (hd : decode cc pc = .ok (.iastore, 1)) (ht : (tC S a).1 = 10) (hin : vp_in i (tC S a).2) (kk : M w p l e R s m args below meth c nL n0 s0 Q (pc + 1) S lv st (pI h a i.toNatClampNeg x)) : M w p l e R s m args below meth c nL n0 s0 Q pc S lv (.int x :: .int i :: .ref a :: st) h := by
  intro H locs ls hn hR hS hl hc
  obtain ⟨ha, had⟩ := Rl_in hR (c := a) (by omega)
  have he := wsO_at (w := w) (S := S) (h := h) ha
  rw [ent_i ht] at he
  have hP := hR.2.2.2 a _ he
  rw [List.map_cons, List.map_cons, List.map_cons, show tv w (.ref a) = .ref (w.1 + a) by show Value.ref (ad w a) = _; rw [had]]
  refine W.iast X.1 X.2.1 hP (((X.2.2.2.2.2.1.1).2 0 _ rfl).1 (tC S a).2 (fun j => .int (gI h a j))) (fun q => by cases q) (by show ¬ (i < 0 ∨ (arrV _ _ _).slots.size ≤ _); rw [arrV_size]; exact hin) rfl rfl hd fun H1 e z oq => ?_
  refine kk H1 _ ls hn (Rl_set (c := a) hR rfl (fun _ => rfl) ?_ z oq (fun c' hc' => ent_pI hc')) (hS.put z oq (by show w.2.1 16 ≤ w.1 + a; have := X.2.2.2.2.2.2.1; omega)) hl hc
  rw [ent_i ht]
  show H1[w.1 + a]? = some (vp_cell _ _)
  rw [e]
  rw [vp_cell_i, vp_cell_i, arrV_store]
  congr 2
  funext q
  by_cases hq : q = i.toNatClampNeg
  · subst hq
    simp [updV, gI, pI]
  · simp [updV, gI, pI, hq]
theorem m_last (X : CX w p R s m args c cc nL own lev) {pc a : Nat} {i : Int32} {x : Int64} {S : SpS} {lv st : List Value} {h : AH} (hd : decode cc pc = .ok (.lastore, 1)) (ht : (tC S a).1 = 11) (hin : vp_in i (tC S a).2) (kk : M w p l e R s m args below meth c nL n0 s0 Q (pc + 1) S lv st (pJ h a i.toNatClampNeg x)) : M w p l e R s m args below meth c nL n0 s0 Q pc S lv (.long x :: .int i :: .ref a :: st) h := by
  intro H locs ls hn hR hS hl hc
  obtain ⟨ha, had⟩ := Rl_in hR (c := a) (by omega)
  have he := wsO_at (w := w) (S := S) (h := h) ha
  rw [ent_l ht] at he
  have hP := hR.2.2.2 a _ he
  rw [List.map_cons, List.map_cons, List.map_cons, show tv w (.ref a) = .ref (w.1 + a) by show Value.ref (ad w a) = _; rw [had]]
  refine W.last X.1 X.2.1 hP (((X.2.2.2.2.2.1.1).2 1 _ rfl).1 (tC S a).2 (fun j => .long (gJ h a j))) (fun q => by cases q) (by show ¬ (i < 0 ∨ (arrV _ _ _).slots.size ≤ _); rw [arrV_size]; exact hin) rfl rfl hd fun H1 e z oq => ?_
  refine kk H1 _ ls hn (Rl_set (c := a) hR rfl (fun _ => rfl) ?_ z oq (fun c' hc' => ent_pJ hc')) (hS.put z oq (by show w.2.1 16 ≤ w.1 + a; have := X.2.2.2.2.2.2.1; omega)) hl hc
  rw [ent_l ht]
  show H1[w.1 + a]? = some (vp_cell _ _)
  rw [e]
  rw [vp_cell_l, vp_cell_l, arrV_store]
  congr 2
  funext q
  by_cases hq : q = i.toNatClampNeg
  · subst hq
    simp [updV, gJ, pJ]
  · simp [updV, gJ, pJ, hq]
end MH
