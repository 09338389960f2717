/-! ===== a contract out of the evaluator ===== -/
def slotsN (as : List Value) : Nat := match as with
  | [] => 0
  | v :: r => v.category + slotsN r
def pad (n : Nat) (as : List Value) : List Value := match n, as with
  | 0, _ => []
  | n + 1, [] => .null :: pad n []
  | n + 1, .int x :: r => .int x :: pad n r
  | n + 1, .ref x :: r => .ref x :: pad n r
  | n + 2, .long x :: r => .long x :: .null :: pad n r
  | n + 2, .double _ :: r => .null :: .null :: pad n r
  | n + 1, _ :: r => .null :: pad n r
def retOK (ret : Option FieldType) (v : Option Value) : Prop := match ret, v with
  | none, none => True
  | some .int, some (.int _) => True
  | some .boolean, some (.int x) => x = 0 ∨ x = 1
  | some .char, some (.int x) => narrow .char (.int x) = .int x
  | some .byte, some (.int x) => narrow .byte (.int x) = .int x
  | some .long, some (.long _) => True
  | some (.object _), some (.ref _) => True
  | _, _ => False
def RtM (ret : Option FieldType) (S : SpS) (mc ms : Nat) (K : Option Value → SpS → AH → Prop) : Option Value → SpS → AH → Prop := fun v S' h' => retOK ret v ∧ nC S' = nC S + mc ∧ sC S' = sC S + ms ∧ K v S' h'
theorem pad_nil : ∀ (n : Nat) (w : Wld) (i : Nat), lvs w i (pad n []) = [] ∧ (pad n []).length = n
  | 0, w, i => ⟨rfl, rfl⟩
  | n + 1, w, i => by
    obtain ⟨h1, h2⟩ := pad_nil n w (i + 1)
    exact ⟨by simpa [pad, lvs] using h1, by simp [pad, h2]⟩
theorem pad_in : ∀ (as : List Value) (n : Nat) (w : Wld) (i : Nat), slotsN as ≤ n → (∀ q ∈ lvs w i (pad n as), q ∈ lv_args i (as.map (tv w))) ∧ (pad n as).length = n
  | [], n, w, i, h => ⟨fun q hq => absurd hq (by rw [(pad_nil n w i).1]; simp), (pad_nil n w i).2⟩
  | .int x :: r, 0, w, i, h => by simp [slotsN, Value.category] at h
  | .ref x :: r, 0, w, i, h => by simp [slotsN, Value.category] at h
  | .long x :: r, 0, w, i, h => by simp [slotsN, Value.category] at h
  | .float x :: r, 0, w, i, h => by simp [slotsN, Value.category] at h
  | .double x :: r, 0, w, i, h => by simp [slotsN, Value.category] at h
  | .null :: r, 0, w, i, h => by simp [slotsN, Value.category] at h
  | .retAddr x :: r, 0, w, i, h => by simp [slotsN, Value.category] at h
  | .int x :: r, n + 1, w, i, h => by
    obtain ⟨h1, h2⟩ := pad_in r n w (i + 1) (by simp [slotsN, Value.category] at h; omega)
    refine ⟨fun q hq => ?_, by simp [pad, h2]⟩
    rcases lvs_cons hq with ⟨-, rfl⟩ | hq
    · exact List.mem_cons_self
    · exact List.mem_cons_of_mem _ (h1 q hq)
  | .ref x :: r, n + 1, w, i, h => by
    obtain ⟨h1, h2⟩ := pad_in r n w (i + 1) (by simp [slotsN, Value.category] at h; omega)
    refine ⟨fun q hq => ?_, by simp [pad, h2]⟩
    rcases lvs_cons hq with ⟨-, rfl⟩ | hq
    · exact List.mem_cons_self
    · exact List.mem_cons_of_mem _ (h1 q hq)
  | .long x :: r, 1, w, i, h => by simp only [slotsN, Value.category] at h; omega
  | .long x :: r, n + 2, w, i, h => by
    obtain ⟨h1, h2⟩ := pad_in r n w (i + 2) (by simp [slotsN, Value.category] at h; omega)
    refine ⟨fun q hq => ?_, by simp [pad, h2]⟩
    rcases lvs_cons hq with ⟨-, rfl⟩ | hq
    · exact List.mem_cons_self
    · rcases lvs_cons hq with ⟨hn, -⟩ | hq
      · exact absurd rfl hn
      · exact List.mem_cons_of_mem _ (h1 q hq)
  | .float x :: r, n + 1, w, i, h => by
    obtain ⟨h1, h2⟩ := pad_in r n w (i + 1) (by simp [slotsN, Value.category] at h; omega)
    refine ⟨fun q hq => ?_, by simp [pad, h2]⟩
    rcases lvs_cons hq with ⟨hn, -⟩ | hq
    · exact absurd rfl hn
    · exact List.mem_cons_of_mem _ (h1 q hq)
  | .double x :: r, n + 1, w, i, h => by
    obtain ⟨h1, h2⟩ := pad_in r n w (i + 2) (by simp [slotsN, Value.category] at h; omega)
    refine ⟨fun q hq => ?_, ?_⟩
    · cases n with
      | zero => simp only [slotsN, Value.category] at h; omega
      | succ n =>
        simp only [pad] at hq
        rcases lvs_cons hq with ⟨hn, -⟩ | hq
        · exact absurd rfl hn
        · rcases lvs_cons hq with ⟨hn, -⟩ | hq
          · exact absurd rfl hn
          · obtain ⟨h3, -⟩ := pad_in r n w (i + 2) (by simp [slotsN, Value.category] at h; omega)
            exact List.mem_cons_of_mem _ (h3 q hq)
    · cases n with
      | zero => simp only [slotsN, Value.category] at h; omega
      | succ n =>
        obtain ⟨-, h4⟩ := pad_in r n w (i + 2) (by simp [slotsN, Value.category] at h; omega)
        simp [pad, h4]
  | .null :: r, n + 1, w, i, h => by
    obtain ⟨h1, h2⟩ := pad_in r n w (i + 1) (by simp [slotsN, Value.category] at h; omega)
    refine ⟨fun q hq => ?_, by simp [pad, h2]⟩
    rcases lvs_cons hq with ⟨hn, -⟩ | hq
    · exact absurd rfl hn
    · exact List.mem_cons_of_mem _ (h1 q hq)
  | .retAddr x :: r, n + 1, w, i, h => by
    obtain ⟨h1, h2⟩ := pad_in r n w (i + 1) (by simp [slotsN, Value.category] at h; omega)
    refine ⟨fun q hq => ?_, by simp [pad, h2]⟩
    rcases lvs_cons hq with ⟨hn, -⟩ | hq
    · exact absurd rfl hn
    · exact List.mem_cons_of_mem _ (h1 q hq)
theorem RtM_ok {w : Wld} {p : Program} {l : Launch} {e : Env} {R : Room} {s : State} {m : MethodId} {below : List Frame} {meth : Method} {c : Code} {cc : ByteArray} {nL lev : Nat} {own : String} {args : Array Value} (X : CX w p R s m args c cc nL own lev) {ret : Option FieldType} (hr : meth.sig.returnType = ret) (hlocks : meth.locks = false) {S : SpS} {mc ms : Nat} {K : Option Value → SpS → AH → Prop} :
    RtOK w p l e R s m args below meth c cc nL (nC S + kkC w) (sC S + kkS w) (MQ below (Qcx w S mc ms K) args s mc ms (A0 w)) (RtM ret S mc ms K) := by
  have fin : ∀ {v : Option Value} {S' : SpS} {h' : AH} {H : Heap} {locs : List Loc}, K v S' h' → nC S' = nC S + mc → sC S' = sC S + ms → Rl w S' h' H → va_S (A0 w) s.heap H locs → ∀ t : State, t.heap = H → s.WarmedH t.vm → Qcx w S mc ms K args s (.returned (v.map (tv w))) t :=
    fun hK h1 h2 hR hS t ht _ => ⟨⟨_, _, _, rfl, hK, by rw [ht]; exact hR, h1, h2⟩, hS.F ht⟩
  refine ⟨fun pc S' lv h' x hd hq H locs ls hn hR hS hl hc => ?_, fun pc S' lv h' x hd hq H locs ls hn hR hS hl hc => ?_, fun pc S' lv h' x hd hq H locs ls hn hR hS hl hc => ?_, fun pc S' lv h' hd hq H locs ls hn hR hS hl hc => ?_⟩
  · obtain ⟨h0, h1, h2, h3⟩ := hq
    rw [show nC S' + kkC w - (nC S + kkC w) = mc by omega, show sC S' + kkS w - (sC S + kkS w) = ms by omega]
    have hty : ∃ ty, ret = some ty ∧ narrow ty (.int x) = .int x := by
      unfold retOK at h0
      split at h0
      · rename_i e; cases e
      · exact ⟨_, rfl, rfl⟩
      · rename_i y e
        have e2 : x = y := by simpa using e
        subst e2
        exact ⟨.boolean, rfl, by rcases h0 with rfl | rfl <;> decide⟩
      · rename_i y e
        have e2 : x = y := by simpa using e
        subst e2
        exact ⟨.char, rfl, h0⟩
      · rename_i y e
        have e2 : x = y := by simpa using e
        subst e2
        exact ⟨.byte, rfl, h0⟩
      · rename_i e; simp at e
      · rename_i e; simp at e
      · exact h0.elim
    obtain ⟨ty, h4, h5⟩ := hty
    exact W.zret X.1 X.2.1 (hr.trans h4) h5 (fin h3 h1 h2 hR hS) hS.2.2 hd hlocks
  · obtain ⟨h0, h1, h2, h3⟩ := hq
    rw [show nC S' + kkC w - (nC S + kkC w) = mc by omega, show sC S' + kkS w - (sC S + kkS w) = ms by omega]
    have hty : ret = some .long := by
      unfold retOK at h0
      split at h0 <;> first | rfl | (rename_i e; simp at e; done) | exact h0.elim
    exact W.lret X.1 X.2.1 (hr.trans hty) (fin h3 h1 h2 hR hS) hS.2.2 hd hlocks
  · obtain ⟨h0, h1, h2, h3⟩ := hq
    rw [show nC S' + kkC w - (nC S + kkC w) = mc by omega, show sC S' + kkS w - (sC S + kkS w) = ms by omega]
    have hty : ∃ C, ret = some (.object C) := by
      unfold retOK at h0
      split at h0 <;> first | exact ⟨_, rfl⟩ | (rename_i e; simp at e; done) | exact h0.elim
    obtain ⟨C, hty⟩ := hty
    exact W.aret X.1 X.2.1 (hr.trans hty) (Or.inl ⟨_, rfl⟩) (Or.inr ⟨_, rfl⟩) (fin h3 h1 h2 hR hS) hS.2.2 hd hlocks
  · obtain ⟨h0, h1, h2, h3⟩ := hq
    rw [show nC S' + kkC w - (nC S + kkC w) = mc by omega, show sC S' + kkS w - (sC S + kkS w) = ms by omega]
    have hty : ret = none := by
      unfold retOK at h0
      split at h0 <;> first | rfl | (rename_i e; simp at e; done) | exact h0.elim
    exact W.vret X.1 X.2.1 (hr.trans hty) (fin h3 h1 h2 hR hS) hS.2.2 hd hlocks
theorem Ct_mk {l : Launch} {lev mc ms maxL : Nat} {ini : Bool} {y : MethodName} {cc : ByteArray} {ret : Option FieldType} {Sp : SpT} (L : List Item) (hd : List Nat) (hy : plainName y.cls = true) (hlev : 1 ≤ lev) (hini : ini = true → y.name = "<init>") (hok : okB cc L = true) (hlk : LKs l y.cls lev ini L)
    (hH : ∀ (S : SpS) (as : List Value) (h : AH) (K : Option Value → SpS → AH → Prop), Sp S as h K → slotsN as ≤ maxL ∧ ∀ J : Nat → SpS → List Value → List Value → AH → Prop, (∀ (t : Nat) (S' : SpS) (lv st : List Value) (h' : AH), goF 60 J (RtM ret S mc ms K) (nC S + mc, sC S + ms) (afw L hd) (atL L t) S' lv st h' → J t S' lv st h') → J 0 S (pad maxL as) [] h) : Ct l y cc maxL ret lev mc ms Sp := by
  intro w S as h K hSp
  obtain ⟨hsl, hJ⟩ := hH S as h K hSp
  refine Met.ofW (cc := cc) (maxL := maxL) (ret := ret) hy rfl ?_
  intro p e s m args below meth c s₁ B hml hv
  obtain ⟨rfl, hR, hKn⟩ := hv
  have hts0 := atoms_spec (ws := Cond.code y cc maxL ret :: gT) B.pre
  have X : CX w p (rmL lev mc ms) s m ((as.map (tv w)).toArray) c cc maxL y.cls lev := ⟨B.exec, B.bytes, hml, findClass_of_methodNamed B.named, fun u hu => hts0 u (List.mem_cons_of_mem _ hu), hKn, hKn.2.2.1, Nat.le_refl _, Nat.le_refl _⟩
  obtain ⟨hpad, hlen⟩ := pad_in as maxL w 0 hsl
  have hz : (lg_sl (as.map (tv w))).length ≤ maxL := by
    have key : ∀ as : List Value, (lg_sl (as.map (tv w))).length = slotsN as := by
      intro as
      induction as with
      | nil => rfl
      | cons v r ih =>
        rw [List.map_cons]
        simp only [lg_sl, List.flatMap_cons, List.length_append, slotsN] at ih ⊢
        rw [ih, tv_cat]
        have : v.category = 1 ∨ v.category = 2 := lv_cat v
        rcases this with q | q <;> simp [q]
    rw [key]; exact hsl
  have hl := lv_entry (as.map (tv w)) hz
  rw [lg_entry_eq]
  generalize (lg_sl (as.map (tv w)) ++ List.replicate (maxL - (lg_sl (as.map (tv w))).length) Slot.unset).toArray = ls at hl ⊢
  have hM := hJ (fun pc S' lv st h' => M w p l e (rmL lev mc ms) s m ((as.map (tv w)).toArray) below meth c maxL (nC S + kkC w) (sC S + kkS w) (MQ below (Qcx w S mc ms K) ((as.map (tv w)).toArray) s mc ms (A0 w)) pc S' lv st h')
    (fun t S' lv st h' hgo => goF_snd X (fun t S lv st h q => q) hlev (by have := hR.1; omega) (fun q => (name_of_methodNamed B.named B.method).1.trans (hini q)) ⟨by show nC S + mc + kkC w = nC S + kkC w + mc; omega, by show sC S + ms + kkS w = sC S + kkS w + ms; omega⟩ (RtM_ok X B.returns B.notSynchronized) hok hlk hd 60 t S' lv st h' hgo)
  have h2 := hM s.heap [] ls hlen hR va_S.rf (lv_mono hl hpad) ⟨Nat.le_refl _, Nat.le_add_right _ _, Nat.le_refl _, Nat.le_add_right _ _⟩
  rw [Nat.sub_self, Nat.sub_self] at h2
  exact h2
