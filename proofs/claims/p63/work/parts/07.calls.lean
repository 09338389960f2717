/-! ===== making cells; switches; constants ===== -/
theorem w_acI : Cond.arrayClass .int ∈ gT := gT_of (List.mem_of_getElem? (i := 94) (by decide +kernel)) rfl
theorem w_acJ : Cond.arrayClass .long ∈ gT := gT_of (List.mem_of_getElem? (i := 190) (by decide +kernel)) rfl
section MN
variable {w : Wld} {p : Program} {l : Launch} {e : Env} {R : Room} {s : State} {m : MethodId} {args : Array Value} {below : List Frame} {meth : Method} {c : Code} {cc : ByteArray} {nL n0 s0 lev : Nat} {own : String} {Q : State → Prop}
theorem nwS_nC (S : SpS) (code len sl : Nat) : nC (nwS S code len sl) = nC S + 1 := rfl
theorem nwS_sC (S : SpS) (code len sl : Nat) : sC (nwS S code len sl) = sC S + sl := rfl
theorem ent_nw {w : Wld} {S : SpS} {h : AH} {code len sl : Nat} {c' : Nat} (hc : c' < nC S) : ent w (nwS S code len sl) (zA h (nC S)) c' = ent w S h c' := by
  have hne : c' ≠ nC S := by omega
  have hne' : c' ≠ S.1 := hne
  have e1 : gI (zA h (nC S)) c' = gI h c' := by funext j; simp [gI, zA, hne]
  have e2 : gJ (zA h (nC S)) c' = gJ h c' := by funext j; simp [gJ, zA, hne]
  have e4 : tC (nwS S code len sl) c' = tC S c' := by simp [tC, nwS, hne']
  have e5 : rC (nwS S code len sl) c' = rC S c' := by funext j; simp [rC, nwS, hne']
  have e3 : ∀ ci, fV w (nwS S code len sl) (zA h (nC S)) c' ci = fV w S h c' ci := by
    intro ci
    funext j
    unfold fV
    rw [e1, e5]
  unfold ent
  rw [e1, e2, e3, e4, e5]
theorem nw_t {S : SpS} {code len sl : Nat} : tC (nwS S code len sl) (nC S) = (code, len) := by simp [tC, nwS, nC]
theorem nw_to {S : SpS} {code len sl c : Nat} (hc : c ≠ nC S) : tC (nwS S code len sl) c = tC S c := by
  have : c ≠ S.1 := hc
  simp [tC, nwS, this]
theorem nw_r {S : SpS} {code len sl k : Nat} : rC (nwS S code len sl) (nC S) k = 0 := by simp [rC, nwS, nC]
theorem nw_g {h : AH} {n : Nat} : gI (zA h n) n = fun _ => 0 := by funext k; simp [gI, zA]
theorem nw_gJ {h : AH} {n : Nat} : gJ (zA h n) n = fun _ => 0 := by funext k; simp [gJ, zA]
theorem m_new (X : CX w p R s m args c cc nL own lev) {pc idx ci : Nat} {S : SpS} {lv st : List Value} {h : AH} (hd : decode cc pc = .ok (.new idx, 3)) {r : vw_C} (h1 : vwCl[ci]? = some r) (hcl : Cond.classLink own idx r.1 ∈ gT) (hins : Cond.instantiable r.1 r.2.2 ∈ gT) (hini : Cond.initialized r.1 ∈ gT) (hb : nC S + 1 ≤ 100000) (hcap : nC S + kkC w + 1 ≤ n0 + R.cells ∧ sC S + kkS w + nF ci ≤ s0 + R.slots)
    (kk : M w p l e R s m args below meth c nL n0 s0 Q (pc + 3) (nwS S ci 0 (nF ci)) lv (.ref (nC S) :: st) (zA h (nC S))) : M w p l e R s m args below meth c nL n0 s0 Q pc S lv st h := by
  intro H locs ls hn hR hS hl hc
  have hci := cls_lt h1
  have hts := X.2.2.2.2.1
  have hK := X.2.2.2.2.2.1.1
  have hKn := hK.1 ci _ h1
  have hnF := cls_nF h1
  obtain ⟨ty0, hty⟩ := cls_ty h1
  have hz := hR.1
  refine W.newcK X.1 X.2.1 X.2.2.2.1 (hts _ hcl) (hts _ hins) (hts _ hini) rfl hd (by omega) (by rw [hnF]; omega) hKn.2.1 rfl fun H1 kC hkC e1 z1 o1 => ?_
  have hborn := u_born (o := H.size) (H := H1) ty0 hts (cls_in h1) hKn hkC e1 hty
  have k2 := kk H1 locs ls hn (Rl_new hR rfl hb (fun c' hc' h9 => by rw [nw_to hc'] at h9; exact h9) ?_ (by omega) o1 (fun c' hc' => ent_nw hc')) ⟨Nat.le_trans hS.1 (by omega), fun x g1 g2 => (o1 x (Nat.lt_of_lt_of_le g1 hS.1)).trans (hS.2.1 x g1 g2), hS.2.2⟩ hl (by rw [nwS_nC, nwS_sC]; omega)
  · rw [nwS_nC, nwS_sC, List.map_cons, show tv w (.ref (nC S)) = .ref H.size by show Value.ref (ad w (nC S)) = _; rw [ad_lt (by omega), hz]] at k2
    rw [show nC S + kkC w - n0 + 1 = nC S + 1 + kkC w - n0 by omega, show sC S + kkS w - s0 + r.2.2 = sC S + nF ci + kkS w - s0 by rw [hnF]; omega]
    exact k2
  · rw [ent_obj (ci := ci) (by rw [nw_t]) (by omega), ← hz]
    refine ⟨r, h1, hborn.to (fun k hk => ?_)⟩
    have hk2 : k < nF ci := by rw [← hnF]; exact hk
    rw [show vp_V (List.map (fV w (nwS S ci 0 (nF ci)) (zA h (nC S)) (nC S) ci) (List.range (nF ci))) k = fV w (nwS S ci 0 (nF ci)) (zA h (nC S)) (nC S) ci k by simp [vp_V, List.getD_eq_getElem?_getD, List.getElem?_map, List.getElem?_range hk2]]
    unfold fV
    rw [nw_g, nw_r]
    cases hf : fI ci k with
    | true =>
      obtain ⟨-, i2⟩ := cls_int h1 k hk hf
      rw [hty k hk] at i2
      rw [Option.some.inj i2, if_pos rfl]
      unfold ftI
      by_cases b : bF ci k = true
      · rw [if_pos b]; rfl
      · rw [if_neg b]; rfl
    | false =>
      obtain ⟨-, i2⟩ := cls_ref h1 k hk hf
      rw [hty k hk] at i2
      have i3 : isRefT (ty0 k) = true := Option.some.inj i2
      rw [if_neg (by simp)]
      cases ht0 : ty0 k <;> rw [ht0] at i3 <;> first | rfl | cases i3
theorem m_newa (X : CX w p R s m args c cc nL own lev) {pc len : Nat} {S : SpS} {lv st : List Value} {h : AH} {n : Int32} (hd : decode cc pc = .ok (.newarray .int, 2)) (hn0 : ¬ n < 0) (hlen : n.toNatClampNeg = len) (hby : len ≤ 100000) (hb : nC S + 1 ≤ 100000) (hcap : nC S + kkC w + 1 ≤ n0 + R.cells ∧ sC S + kkS w + len ≤ s0 + R.slots)
    (kk : M w p l e R s m args below meth c nL n0 s0 Q (pc + 2) (nwS S 10 len len) lv (.ref (nC S) :: st) (zA h (nC S))) : M w p l e R s m args below meth c nL n0 s0 Q pc S lv (.int n :: st) h := by
  intro H locs ls hn hR hS hl hc
  have hts := X.2.2.2.2.1
  have hK := X.2.2.2.2.2.1.1
  have hz := hR.1
  refine va_newaK (atype := .int) X.1 X.2.1 (hts _ w_acI) rfl hd rfl hn0 hlen (by show len * 4 ≤ _; omega) (by omega) (by omega) rfl fun H1 cA e1 z1 o1 hAr hNm => ?_
  have hA : w.2.2.2 0 = cA := by
    have h3 := (hK.2 0 (w.2.2.2 0, .int) rfl).2
    have h4 : s.vm.findClass ("[" ++ FieldType.int.toString) = some (w.2.2.2 0) := h3
    exact Option.some.inj (h4.symm.trans hNm)
  have k2 := kk H1 locs ls hn (Rl_new hR rfl hb (fun c' hc' h9 => by rw [nw_to hc'] at h9; exact h9) ?_ (by omega) o1 (fun c' hc' => ent_nw hc')) ⟨Nat.le_trans hS.1 (by omega), fun x g1 g2 => (o1 x (Nat.lt_of_lt_of_le g1 hS.1)).trans (hS.2.1 x g1 g2), hS.2.2⟩ hl (by rw [nwS_nC, nwS_sC]; omega)
  · rw [nwS_nC, nwS_sC, List.map_cons, show tv w (.ref (nC S)) = .ref H.size by show Value.ref (ad w (nC S)) = _; rw [ad_lt (by omega), hz]] at k2
    rw [show nC S + kkC w - n0 + 1 = nC S + 1 + kkC w - n0 by omega, show sC S + kkS w - s0 + len = sC S + len + kkS w - s0 by omega]
    exact k2
  · rw [ent_i (by rw [nw_t]), ← hz, nw_t, nw_g, hA]
    exact e1
theorem m_newl (X : CX w p R s m args c cc nL own lev) {pc len : Nat} {S : SpS} {lv st : List Value} {h : AH} {n : Int32} (hd : decode cc pc = .ok (.newarray .long, 2)) (hn0 : ¬ n < 0) (hlen : n.toNatClampNeg = len) (hby : len ≤ 100000) (hb : nC S + 1 ≤ 100000) (hcap : nC S + kkC w + 1 ≤ n0 + R.cells ∧ sC S + kkS w + len ≤ s0 + R.slots)
    (kk : M w p l e R s m args below meth c nL n0 s0 Q (pc + 2) (nwS S 11 len len) lv (.ref (nC S) :: st) (zA h (nC S))) : M w p l e R s m args below meth c nL n0 s0 Q pc S lv (.int n :: st) h := by
  intro H locs ls hn hR hS hl hc
  have hts := X.2.2.2.2.1
  have hK := X.2.2.2.2.2.1.1
  have hz := hR.1
  refine va_newaK (atype := .long) X.1 X.2.1 (hts _ w_acJ) rfl hd rfl hn0 hlen (by show len * 8 ≤ _; omega) (by omega) (by omega) rfl fun H1 cA e1 z1 o1 hAr hNm => ?_
  have hA : w.2.2.2 1 = cA := by
    have h3 := (hK.2 1 (w.2.2.2 1, .long) rfl).2
    have h4 : s.vm.findClass ("[" ++ FieldType.long.toString) = some (w.2.2.2 1) := h3
    exact Option.some.inj (h4.symm.trans hNm)
  have k2 := kk H1 locs ls hn (Rl_new hR rfl hb (fun c' hc' h9 => by rw [nw_to hc'] at h9; exact h9) ?_ (by omega) o1 (fun c' hc' => ent_nw hc')) ⟨Nat.le_trans hS.1 (by omega), fun x g1 g2 => (o1 x (Nat.lt_of_lt_of_le g1 hS.1)).trans (hS.2.1 x g1 g2), hS.2.2⟩ hl (by rw [nwS_nC, nwS_sC]; omega)
  · rw [nwS_nC, nwS_sC, List.map_cons, show tv w (.ref (nC S)) = .ref H.size by show Value.ref (ad w (nC S)) = _; rw [ad_lt (by omega), hz]] at k2
    rw [show nC S + kkC w - n0 + 1 = nC S + 1 + kkC w - n0 by omega, show sC S + kkS w - s0 + len = sC S + len + kkS w - s0 by omega]
    exact k2
  · rw [ent_l (by rw [nw_t]), ← hz, nw_t, nw_gJ, hA]
    exact e1
theorem m_newq (X : CX w p R s m args c cc nL own lev) {pc idx len code : Nat} {S : SpS} {lv st : List Value} {h : AH} {n : Int32} (hd : decode cc pc = .ok (.anewarray idx, 3)) {C : String} (hcode : (code = 12 ∧ C = RX1) ∨ (code = 13 ∧ C = RX3)) (hcl : Cond.classLink own idx C ∈ gT) (hn0 : ¬ n < 0) (hlen : n.toNatClampNeg = len) (hby : len ≤ 100000) (hb : nC S + 1 ≤ 100000) (hcap : nC S + kkC w + 1 ≤ n0 + R.cells ∧ sC S + kkS w + len ≤ s0 + R.slots)
    (kk : M w p l e R s m args below meth c nL n0 s0 Q (pc + 3) (nwS S code len len) lv (.ref (nC S) :: st) (zA h (nC S))) : M w p l e R s m args below meth c nL n0 s0 Q pc S lv (.int n :: st) h := by
  intro H locs ls hn hR hS hl hc
  have hts := X.2.2.2.2.1
  have hK := X.2.2.2.2.2.1.1
  have hz := hR.1
  subst hlen
  have hAO : (Cond.arrayOver (.object C)).before args s = true := by
    rcases hcode with ⟨-, h1⟩ | ⟨-, h1⟩
    · rw [h1]; exact X.2.2.2.2.2.1.2.1.1.1.use
    · rw [h1]; exact X.2.2.2.2.2.1.2.1.1.2.use
  refine W.anew X.1 X.2.1 X.2.2.2.1 (hts _ hcl) hAO rfl hd rfl hn0 (by omega) (by omega) (by omega) fun cA kA comp f1 f2 f3 f4 => ?_
  generalize hH1 : H.push ({ cls := cA, slots := Array.replicate n.toNatClampNeg .null, vm := .none } : Cell) = H1
  have z1 : H1.size = H.size + 1 := by rw [← hH1, Array.size_push]
  have e1 : H1[H.size]? = some (arrV cA n.toNatClampNeg (fun _ => .null)) := by rw [← hH1, Array.getElem?_push_size, ← arrV_new]
  have o1 : ∀ q : Nat, q < H.size → H1[q]? = H[q]? := fun q hq => by rw [← hH1, Array.getElem?_push, if_neg (Nat.ne_of_lt hq)]
  have k2 := kk H1 locs ls hn (Rl_new hR rfl hb (fun c' hc' h9 => by rw [nw_to hc'] at h9; exact h9) ?_ (by omega) o1 (fun c' hc' => ent_nw hc')) ⟨Nat.le_trans hS.1 (by omega), fun x g1 g2 => (o1 x (Nat.lt_of_lt_of_le g1 hS.1)).trans (hS.2.1 x g1 g2), hS.2.2⟩ hl (by rw [nwS_nC, nwS_sC]; omega)
  · rw [nwS_nC, nwS_sC, List.map_cons, show tv w (.ref (nC S)) = .ref H.size by show Value.ref (ad w (nC S)) = _; rw [ad_lt (by omega), hz]] at k2
    rw [show nC S + kkC w - n0 + 1 = nC S + 1 + kkC w - n0 by omega, show sC S + kkS w - s0 + n.toNatClampNeg = sC S + n.toNatClampNeg + kkS w - s0 by omega]
    exact k2
  · rcases hcode with ⟨rfl, rfl⟩ | ⟨rfl, rfl⟩
    · have hA : w.2.2.2 2 = cA := by
        obtain ⟨_, _, _, _, _, h4⟩ := (hK.2 2 (w.2.2.2 2, .object RX1) rfl).2
        exact Option.some.inj (h4.symm.trans f1)
      rw [ent_q (by rw [nw_t]), ← hz, nw_t, hA]
      show H1[H.size]? = some (vp_cell _ _)
      rw [vp_cell_q, e1]
      simp only [nw_r]
      rfl
    · have hA : w.2.2.2 3 = cA := by
        obtain ⟨_, _, _, _, _, h4⟩ := (hK.2 3 (w.2.2.2 3, .object RX3) rfl).2
        exact Option.some.inj (h4.symm.trans f1)
      rw [ent_r (by rw [nw_t]), ← hz, nw_t, hA]
      show H1[H.size]? = some (vp_cell _ _)
      rw [vp_cell_q, e1]
      simp only [nw_r]
      rfl
end MN
