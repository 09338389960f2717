/-! ===== what stands at a method's entry; the judgement M: the machine comes to its end from this place of the abstract world ===== -/
def tyW (w : Wld) : List (ClassId × FieldType) := [(w.2.2.2 0, .int), (w.2.2.2 1, .long), (w.2.2.2 2, .object RX1), (w.2.2.2 3, .object RX3)]
def lenJ : List Nat := [4, 5, 3, 5, 4, 4, 3]
def bytJ : List (List Int32) := [[104, 101, 105, 114], [99, 104, 105, 108, 100], [104, 97, 115], [115, 116, 111, 114, 101], [121, 101, 97, 114], [114, 117, 108, 101], [106, 111, 121]]
def strT : List (String × Nat × String × Nat) := [("CorkSaysWhen$Tape", 92, "heir", 0), ("CorkSaysWhen$Tape", 94, "child", 1), ("CorkSaysWhen$Tape", 96, "has", 2), ("CorkSaysWhen$Tape", 97, "store", 3), ("CorkSaysWhen$Tape", 98, "year", 4), ("CorkSaysWhen$Tape", 99, "rule", 5), ("CorkSaysWhen$Tape", 100, "joy", 6)]
def Kx (w : Wld) (U : State) : Prop := w.2.1 16 ≤ w.1 ∧ w.2.1 15 < w.2.1 16 ∧ ∃ (L : Nat) (xs : Nat → Int32), L ≤ 260 ∧ va_X (w.2.1 15) L xs U U.heap
def Kst (w : Wld) (U : State) : Prop := (va_AO RX1 U ∧ va_AO RX3 U) ∧ vk_S 7 lenJ bytJ w.2.1 (fun i => w.2.1 (7 + i)) (A0 w) U U.heap ∧ (∀ q ∈ strT, vk_R q.1 q.2.1 q.2.2.1 (w.2.1 q.2.2.2) U) ∧ va_Z "java/lang/String" "COMPACT_STRINGS" "Z" (.int 1) (A0 w) U U.heap ∧ (va_Z "jdk/internal/util/Preconditions" "SIOOBE_FORMATTER" "Ljava/util/function/BiFunction;" .null (A0 w) U U.heap ∨ va_Z "jdk/internal/util/Preconditions" "SIOOBE_FORMATTER" "Ljava/util/function/BiFunction;" (.ref (w.2.1 14)) (A0 w) U U.heap)
def Kn (w : Wld) (U : State) : Prop := va_K w.2.2.1 vwCl (tyW w) U ∧ Kst w U ∧ Kx w U
theorem Kn_warm {w : Wld} {s U : State} {H : Heap} {locs : List Loc} (h : Kn w s) (hS : va_S (A0 w) s.heap H locs) (hU : U.heap = H) (hW : s.WarmedH U.vm) : Kn w U := by
  obtain ⟨h1, ⟨⟨ha1, ha2⟩, h2, h3, h4, h5⟩, hx0, hx1, L, xs, hx2, hx3⟩ := h
  subst hU
  exact ⟨h1.moved hW.alike, ⟨⟨ha1.moved hW.alike, ha2.moved hW.alike⟩, (h2.kept hS.2.1).moved hW.alike, fun q hq => vk_R.warm hW (h3 q hq), (h4.kept hS.2.1).moved hW.alike, h5.imp (fun z => (z.kept hS.2.1).moved hW.alike) (fun z => (z.kept hS.2.1).moved hW.alike)⟩, hx0, hx1, L, xs, hx2, (hx3.kept (hS.2.1 _ (by obtain ⟨scr, z, -⟩ := hx3; exact (Array.getElem?_eq_some_iff.mp z).1) (Nat.not_le.mpr hx1))).moved hW.alike⟩
theorem Kn_same {w : Wld} {s U : State} (h : Kn w s) (hU : U.heap = s.heap) (hv : U.vm = s.vm) : Kn w U := by
  obtain ⟨h1, ⟨⟨ha1, ha2⟩, h2, h3, h4, h5⟩, hx0, hx1, L, xs, hx2, hx3⟩ := h
  have ha : s.vm.Alike U.vm := by rw [hv]; exact Vm.Alike.refl _
  refine ⟨h1.moved ha, ⟨⟨ha1.moved ha, ha2.moved ha⟩, ?_, fun q hq => vk_R.same hv (h3 q hq), ?_, ?_⟩, hx0, hx1, L, xs, hx2, ?_⟩
  · rw [hU]; exact h2.moved ha
  · rw [hU]; exact h4.moved ha
  · rw [hU]; exact h5.imp (fun z => z.moved ha) (fun z => z.moved ha)
  · rw [hU]; exact hx3.moved ha
/-- what is fixed in a method's body: machine, code, tables, the world's classes; the room -/
def CX (w : Wld) (p : Program) (R : Room) (s : State) (m : MethodId) (args : Array Value) (c : Code) (cc : ByteArray) (nL : Nat) (own : String) (lev : Nat) : Prop :=
  p.tables.exec = Jvm.exec ∧ c.code = cc ∧ c.maxLocals = nL ∧ s.vm.findClass own = some m.cls ∧ (∀ u ∈ gT, u.before args s = true) ∧ Kn w s ∧ w.2.1 16 ≤ w.1 ∧ lev ≤ R.frames ∧ 36 * lev ≤ R.locals
/-! locals: a list of values by place; null: nothing is known -/
def gL (l : List Value) (n : Nat) : Value := match l, n with
  | [], _ => .null
  | v :: _, 0 => v
  | _ :: r, n + 1 => gL r n
def kilL (v : Value) : Value := match v with
  | .int x => .int x
  | .ref x => .ref x
  | _ => .null
def sL (l : List Value) (n : Nat) (v : Value) : List Value := match l, n with
  | [], _ => []
  | _ :: r, 0 => v :: r
  | a :: r, 1 => kilL a :: sL r 0 v
  | a :: r, n + 2 => a :: sL r (n + 1) v
def sL2 (l : List Value) (n : Nat) (v : Value) : List Value := match l, n with
  | [], _ => []
  | [a], _ => [a]
  | _ :: _ :: r, 0 => v :: .null :: r
  | a :: b :: r, 1 => kilL a :: sL2 (b :: r) 0 v
  | a :: b :: r, n + 2 => a :: sL2 (b :: r) (n + 1) v
def lvs (w : Wld) (i : Nat) (l : List Value) : List (Nat × Value) := match l with
  | [] => []
  | .null :: r => lvs w (i + 1) r
  | v :: r => (i, tv w v) :: lvs w (i + 1) r
theorem lvs_cons {w : Wld} {i : Nat} {v : Value} {r : List Value} {q : Nat × Value} (h : q ∈ lvs w i (v :: r)) : (v ≠ .null ∧ q = (i, tv w v)) ∨ q ∈ lvs w (i + 1) r := by
  cases v <;> simp [lvs] at h ⊢ <;> exact h
theorem lvs_in {w : Wld} : ∀ (l : List Value) (i k : Nat), gL l k ≠ .null → (i + k, tv w (gL l k)) ∈ lvs w i l
  | [], i, k, h => absurd (by cases k <;> rfl) h
  | v :: r, i, 0, h => by
    simp only [gL, Nat.add_zero] at h ⊢
    cases v <;> simp_all [lvs]
  | v :: r, i, k + 1, h => by
    have ih := lvs_in (w := w) r (i + 1) k (by simpa [gL] using h)
    rw [show i + 1 + k = i + (k + 1) by omega] at ih
    have e : gL (v :: r) (k + 1) = gL r k := rfl
    rw [e]
    cases v <;> simp only [lvs] <;> first | exact ih | exact List.mem_cons_of_mem _ ih
theorem lvs_of {w : Wld} : ∀ (l : List Value) (i : Nat) (q : Nat × Value), q ∈ lvs w i l → ∃ k, q.1 = i + k ∧ k < l.length ∧ gL l k ≠ .null ∧ q.2 = tv w (gL l k)
  | [], i, q, h => by simp [lvs] at h
  | v :: r, i, q, h => by
    rcases lvs_cons h with ⟨h1, rfl⟩ | h
    · exact ⟨0, rfl, by simp, by simpa [gL] using h1, rfl⟩
    · obtain ⟨k, h1, h2, h3, h4⟩ := lvs_of r (i + 1) q h
      exact ⟨k + 1, by omega, by simp; omega, h3, h4⟩
theorem gL_sL : ∀ (l : List Value) (n k : Nat) (v : Value), n < l.length → gL (sL l n v) k = if k = n then v else if k + 1 = n then kilL (gL l k) else gL l k
  | [], n, k, v, h => by simp at h
  | a :: r, 0, 0, v, h => rfl
  | a :: r, 0, k + 1, v, h => by simp [sL, gL]
  | a :: r, 1, 0, v, h => by simp [sL, gL]
  | a :: r, 1, k + 1, v, h => by
    have ih := gL_sL r 0 k v (by simpa using h)
    simp only [sL, gL]
    rw [ih]
    simp
  | a :: r, n + 2, 0, v, h => by simp [sL, gL]
  | a :: r, n + 2, k + 1, v, h => by
    have ih := gL_sL r (n + 1) k v (by simp at h; omega)
    simp only [sL, gL]
    rw [ih]
    simp
theorem gL_sL2 : ∀ (l : List Value) (n k : Nat) (v : Value), n + 1 < l.length → gL (sL2 l n v) k = if k = n then v else if k = n + 1 then .null else if k + 1 = n then kilL (gL l k) else gL l k
  | [], n, k, v, h => by simp at h
  | [a], n, k, v, h => by simp at h
  | a :: b :: r, 0, 0, v, h => rfl
  | a :: b :: r, 0, 1, v, h => rfl
  | a :: b :: r, 0, k + 2, v, h => by simp [sL2, gL]
  | a :: b :: r, 1, 0, v, h => by simp [sL2, gL]
  | a :: b :: r, 1, k + 1, v, h => by
    have ih := gL_sL2 (b :: r) 0 k v (by simpa using h)
    simp only [sL2]
    rw [show gL (kilL a :: sL2 (b :: r) 0 v) (k + 1) = gL (sL2 (b :: r) 0 v) k from rfl, ih]
    simp [gL]
  | a :: b :: r, n + 2, 0, v, h => by simp [sL2, gL]
  | a :: b :: r, n + 2, k + 1, v, h => by
    have ih := gL_sL2 (b :: r) (n + 1) k v (by simp at h ⊢; omega)
    simp only [sL2]
    rw [show gL (a :: sL2 (b :: r) (n + 1) v) (k + 1) = gL (sL2 (b :: r) (n + 1) v) k from rfl, ih]
    simp [gL]
theorem kilL_ne {v : Value} (h : kilL v ≠ .null) : kilL v = v ∧ v.category ≠ 2 := by cases v <;> simp_all [kilL, Value.category]
theorem sL_len : ∀ (l : List Value) (n : Nat) (v : Value), (sL l n v).length = l.length
  | [], n, v => by simp [sL]
  | a :: r, 0, v => by simp [sL]
  | a :: r, 1, v => by simp [sL, sL_len r 0 v]
  | a :: r, n + 2, v => by simp [sL, sL_len r (n + 1) v]
theorem lv_mono {ls : Array Slot} {nL : Nat} {l l' : List (Nat × Value)} (h : lv_has ls nL l) (hs : ∀ q ∈ l', q ∈ l) : lv_has ls nL l' := ⟨h.1, h.2.1, fun q hq => h.2.2 q (hs q hq)⟩
theorem lv_get {w : Wld} {ls : Array Slot} {nL : Nat} {l : List Value} (h : lv_has ls nL (lvs w 0 l)) (k : Nat) {v : Value} (hv : gL l k = v) (hn : v ≠ .null) : ls[k]? = some (.val (tv w v)) := by
  have := h.2.2 _ (lvs_in (w := w) l 0 k (by rw [hv]; exact hn))
  simpa [hv] using this
theorem lvs_sL {w : Wld} {l : List Value} {i : Nat} {v : Value} (hi : i < l.length) : ∀ q ∈ lvs w 0 (sL l i v), q ∈ (i, tv w v) :: (lvs w 0 l).filter (fun q => !(q.1 == i) && !(q.1 + 1 == i && q.2.category == 2)) := by
  intro q hq
  obtain ⟨k, h1, h2, h3, h4⟩ := lvs_of _ _ _ hq
  rw [gL_sL l i k v hi] at h3 h4
  have hk : q.1 = k := by omega
  by_cases e : k = i
  · subst e
    rw [if_pos rfl] at h4
    refine List.mem_cons.mpr (Or.inl ?_)
    rw [← hk, ← h4]
  · rw [if_neg e] at h3 h4
    refine List.mem_cons_of_mem _ (List.mem_filter.mpr ⟨?_, ?_⟩)
    · by_cases e2 : k + 1 = i
      · rw [if_pos e2] at h3 h4
        obtain ⟨g1, g2⟩ := kilL_ne h3
        rw [g1] at h3 h4
        have := lvs_in (w := w) l 0 k h3
        rw [← h4, Nat.zero_add, ← hk] at this
        exact this
      · rw [if_neg e2] at h3 h4
        have := lvs_in (w := w) l 0 k h3
        rw [← h4, Nat.zero_add, ← hk] at this
        exact this
    · by_cases e2 : k + 1 = i
      · rw [if_pos e2] at h3 h4
        obtain ⟨g1, g2⟩ := kilL_ne h3
        rw [g1] at h4
        have : q.2.category ≠ 2 := by rw [h4, tv_cat]; exact g2
        simp [hk, e, this]
      · simp [hk, e, e2]
theorem lvs_sL2 {w : Wld} {l : List Value} {i : Nat} {v : Value} (hi : i + 1 < l.length) : ∀ q ∈ lvs w 0 (sL2 l i v), q ∈ (i, tv w v) :: (lvs w 0 l).filter (fun q => !(q.1 == i) && (!(q.1 == i + 1) && !(q.1 + 1 == i && q.2.category == 2))) := by
  intro q hq
  obtain ⟨k, h1, h2, h3, h4⟩ := lvs_of _ _ _ hq
  rw [gL_sL2 l i k v hi] at h3 h4
  have hk : q.1 = k := by omega
  by_cases e : k = i
  · subst e
    rw [if_pos rfl] at h4
    refine List.mem_cons.mpr (Or.inl ?_)
    rw [← hk, ← h4]
  · rw [if_neg e] at h3 h4
    by_cases e1 : k = i + 1
    · rw [if_pos e1] at h3
      exact absurd rfl h3
    · rw [if_neg e1] at h3 h4
      refine List.mem_cons_of_mem _ (List.mem_filter.mpr ⟨?_, ?_⟩)
      · by_cases e2 : k + 1 = i
        · rw [if_pos e2] at h3 h4
          obtain ⟨g1, g2⟩ := kilL_ne h3
          rw [g1] at h3 h4
          have := lvs_in (w := w) l 0 k h3
          rw [← h4, Nat.zero_add, ← hk] at this
          exact this
        · rw [if_neg e2] at h3 h4
          have := lvs_in (w := w) l 0 k h3
          rw [← h4, Nat.zero_add, ← hk] at this
          exact this
      · by_cases e2 : k + 1 = i
        · rw [if_pos e2] at h3 h4
          obtain ⟨g1, g2⟩ := kilL_ne h3
          rw [g1] at h4
          have : q.2.category ≠ 2 := by rw [h4, tv_cat]; exact g2
          simp [hk, e, e1, this]
        · simp [hk, e, e1, e2]
theorem lvs_args (w : Wld) : ∀ (vs : List Value) (i : Nat), (∀ v ∈ vs, v ≠ .null) → ∃ l : List Value, True := fun _ _ _ => ⟨[], trivial⟩
section MM
variable {w : Wld} {p : Program} {l : Launch} {e : Env} {R : Room} {s : State} {m : MethodId} {args : Array Value} {below : List Frame} {meth : Method} {c : Code} {cc : ByteArray} {nL n0 s0 lev : Nat} {own : String} {Q : State → Prop}
def M (w : Wld) (p : Program) (l : Launch) (e : Env) (R : Room) (s : State) (m : MethodId) (args : Array Value) (below : List Frame) (meth : Method) (c : Code) (nL n0 s0 : Nat) (Q : State → Prop) (pc : Nat) (S : SpS) (lv st : List Value) (h : AH) : Prop :=
  ∀ (H : Heap) (locs : List Loc) (ls : Array Slot), lv.length = nL → Rl w S h H → va_S (A0 w) s.heap H locs → lv_has ls nL (lvs w 0 lv) → (n0 ≤ nC S + kkC w ∧ nC S + kkC w ≤ n0 + R.cells ∧ s0 ≤ sC S + kkS w ∧ sC S + kkS w ≤ s0 + R.slots) → W p l e R s m args below meth c H locs (nC S + kkC w - n0) (sC S + kkS w - s0) Q (F0 m pc ls (st.map (tv w)))
theorem m_iconst (X : CX w p R s m args c cc nL own lev) {pc : Nat} {n : Int} {S : SpS} {lv st : List Value} {h : AH} (hd : decode cc pc = .ok (.iconst n, 1)) (k : M w p l e R s m args below meth c nL n0 s0 Q (pc + 1) S lv (.int (Int32.ofInt n) :: st) h) : M w p l e R s m args below meth c nL n0 s0 Q pc S lv st h := fun H locs ls hn hR hS hl hc => lv_iconst X.1 X.2.1 hd rfl (k H locs ls hn hR hS hl hc)
theorem m_bipush (X : CX w p R s m args c cc nL own lev) {pc : Nat} {n : Int} {S : SpS} {lv st : List Value} {h : AH} (hd : decode cc pc = .ok (.bipush n, 2)) (k : M w p l e R s m args below meth c nL n0 s0 Q (pc + 2) S lv (.int (Int8.ofInt n).toInt32 :: st) h) : M w p l e R s m args below meth c nL n0 s0 Q pc S lv st h := fun H locs ls hn hR hS hl hc => lv_bipush X.1 X.2.1 hd rfl (k H locs ls hn hR hS hl hc)
theorem m_sipush (X : CX w p R s m args c cc nL own lev) {pc : Nat} {n : Int} {S : SpS} {lv st : List Value} {h : AH} (hd : decode cc pc = .ok (.sipush n, 3)) (k : M w p l e R s m args below meth c nL n0 s0 Q (pc + 3) S lv (.int (Int16.ofInt n).toInt32 :: st) h) : M w p l e R s m args below meth c nL n0 s0 Q pc S lv st h := fun H locs ls hn hR hS hl hc => lv_sipush X.1 X.2.1 hd rfl (k H locs ls hn hR hS hl hc)
theorem m_lconst (X : CX w p R s m args c cc nL own lev) {pc : Nat} {n : Fin 2} {S : SpS} {lv st : List Value} {h : AH} (hd : decode cc pc = .ok (.lconst n, 1)) (k : M w p l e R s m args below meth c nL n0 s0 Q (pc + 1) S lv (.long (Int64.ofNat n) :: st) h) : M w p l e R s m args below meth c nL n0 s0 Q pc S lv st h := fun H locs ls hn hR hS hl hc => lv_lconst X.1 X.2.1 hd rfl (k H locs ls hn hR hS hl hc)
theorem m_iload (X : CX w p R s m args c cc nL own lev) {pc i : Nat} {x : Int32} {S : SpS} {lv st : List Value} {h : AH} (hd : decode cc pc = .ok (.iload i, 2)) (hx : gL lv i = .int x) (k : M w p l e R s m args below meth c nL n0 s0 Q (pc + 2) S lv (.int x :: st) h) : M w p l e R s m args below meth c nL n0 s0 Q pc S lv st h := fun H locs ls hn hR hS hl hc => lv_iload X.1 X.2.1 hd (lv_get hl i hx (by simp)) (k H locs ls hn hR hS hl hc)
theorem m_iload_n (X : CX w p R s m args c cc nL own lev) {pc : Nat} {i : Fin 4} {x : Int32} {S : SpS} {lv st : List Value} {h : AH} (hd : decode cc pc = .ok (.iload_n i, 1)) (hx : gL lv i = .int x) (k : M w p l e R s m args below meth c nL n0 s0 Q (pc + 1) S lv (.int x :: st) h) : M w p l e R s m args below meth c nL n0 s0 Q pc S lv st h := fun H locs ls hn hR hS hl hc => lv_iload_n X.1 X.2.1 hd rfl (lv_get hl i hx (by simp)) (k H locs ls hn hR hS hl hc)
theorem m_lload (X : CX w p R s m args c cc nL own lev) {pc i : Nat} {x : Int64} {S : SpS} {lv st : List Value} {h : AH} (hd : decode cc pc = .ok (.lload i, 2)) (hx : gL lv i = .long x) (k : M w p l e R s m args below meth c nL n0 s0 Q (pc + 2) S lv (.long x :: st) h) : M w p l e R s m args below meth c nL n0 s0 Q pc S lv st h := fun H locs ls hn hR hS hl hc => lv_lload X.1 X.2.1 hd (lv_get hl i hx (by simp)) (k H locs ls hn hR hS hl hc)
theorem m_lload_n (X : CX w p R s m args c cc nL own lev) {pc : Nat} {i : Fin 4} {x : Int64} {S : SpS} {lv st : List Value} {h : AH} (hd : decode cc pc = .ok (.lload_n i, 1)) (hx : gL lv i = .long x) (k : M w p l e R s m args below meth c nL n0 s0 Q (pc + 1) S lv (.long x :: st) h) : M w p l e R s m args below meth c nL n0 s0 Q pc S lv st h := fun H locs ls hn hR hS hl hc => lv_lload_n X.1 X.2.1 hd rfl (lv_get hl i hx (by simp)) (k H locs ls hn hR hS hl hc)
theorem m_aload (X : CX w p R s m args c cc nL own lev) {pc i : Nat} {x : Nat} {S : SpS} {lv st : List Value} {h : AH} (hd : decode cc pc = .ok (.aload i, 2)) (hx : gL lv i = .ref x) (k : M w p l e R s m args below meth c nL n0 s0 Q (pc + 2) S lv (.ref x :: st) h) : M w p l e R s m args below meth c nL n0 s0 Q pc S lv st h := fun H locs ls hn hR hS hl hc => lv_aload X.1 X.2.1 hd (lv_get hl i hx (by simp)) (k H locs ls hn hR hS hl hc)
theorem m_aload_n (X : CX w p R s m args c cc nL own lev) {pc : Nat} {i : Fin 4} {x : Nat} {S : SpS} {lv st : List Value} {h : AH} (hd : decode cc pc = .ok (.aload_n i, 1)) (hx : gL lv i = .ref x) (k : M w p l e R s m args below meth c nL n0 s0 Q (pc + 1) S lv (.ref x :: st) h) : M w p l e R s m args below meth c nL n0 s0 Q pc S lv st h := fun H locs ls hn hR hS hl hc => lv_aload_n X.1 X.2.1 hd rfl (lv_get hl i hx (by simp)) (k H locs ls hn hR hS hl hc)
theorem m_istore (X : CX w p R s m args c cc nL own lev) {pc i : Nat} {x : Int32} {S : SpS} {lv st : List Value} {h : AH} (hd : decode cc pc = .ok (.istore i, 2)) (hi : i < lv.length) (k : M w p l e R s m args below meth c nL n0 s0 Q (pc + 2) S (sL lv i (.int x)) st h) : M w p l e R s m args below meth c nL n0 s0 Q pc S lv (.int x :: st) h := fun H locs ls hn hR hS hl hc => lv_istore X.1 X.2.1 hd hl (hn ▸ hi) rfl (fun ls' hl' => k H locs ls' (by rw [sL_len]; exact hn) hR hS (lv_mono hl' (lvs_sL (v := .int x) hi)) hc)
theorem m_istore_n (X : CX w p R s m args c cc nL own lev) {pc : Nat} {i : Fin 4} {x : Int32} {S : SpS} {lv st : List Value} {h : AH} (hd : decode cc pc = .ok (.istore_n i, 1)) (hi : i.val < lv.length) (k : M w p l e R s m args below meth c nL n0 s0 Q (pc + 1) S (sL lv i (.int x)) st h) : M w p l e R s m args below meth c nL n0 s0 Q pc S lv (.int x :: st) h := fun H locs ls hn hR hS hl hc => lv_istore_n X.1 X.2.1 hd rfl hl (hn ▸ hi) rfl (fun ls' hl' => k H locs ls' (by rw [sL_len]; exact hn) hR hS (lv_mono hl' (lvs_sL (v := .int x) hi)) hc)
theorem m_astore (X : CX w p R s m args c cc nL own lev) {pc i : Nat} {x : Nat} {S : SpS} {lv st : List Value} {h : AH} (hd : decode cc pc = .ok (.astore i, 2)) (hi : i < lv.length) (k : M w p l e R s m args below meth c nL n0 s0 Q (pc + 2) S (sL lv i (.ref x)) st h) : M w p l e R s m args below meth c nL n0 s0 Q pc S lv (.ref x :: st) h := fun H locs ls hn hR hS hl hc => lv_astore X.1 X.2.1 hd hl (hn ▸ hi) rfl (fun ls' hl' => k H locs ls' (by rw [sL_len]; exact hn) hR hS (lv_mono hl' (lvs_sL (v := .ref x) hi)) hc)
theorem m_astore_n (X : CX w p R s m args c cc nL own lev) {pc : Nat} {i : Fin 4} {x : Nat} {S : SpS} {lv st : List Value} {h : AH} (hd : decode cc pc = .ok (.astore_n i, 1)) (hi : i.val < lv.length) (k : M w p l e R s m args below meth c nL n0 s0 Q (pc + 1) S (sL lv i (.ref x)) st h) : M w p l e R s m args below meth c nL n0 s0 Q pc S lv (.ref x :: st) h := fun H locs ls hn hR hS hl hc => lv_astore_n X.1 X.2.1 hd rfl hl (hn ▸ hi) rfl (fun ls' hl' => k H locs ls' (by rw [sL_len]; exact hn) hR hS (lv_mono hl' (lvs_sL (v := .ref x) hi)) hc)
theorem sL2_len : ∀ (l : List Value) (n : Nat) (v : Value), (sL2 l n v).length = l.length
  | [], n, v => by simp [sL2]
  | [a], n, v => by simp [sL2]
  | a :: b :: r, 0, v => by simp [sL2]
  | a :: b :: r, 1, v => by simp [sL2, sL2_len (b :: r) 0 v]
  | a :: b :: r, n + 2, v => by simp [sL2, sL2_len (b :: r) (n + 1) v]
theorem m_lstore (X : CX w p R s m args c cc nL own lev) {pc i : Nat} {x : Int64} {S : SpS} {lv st : List Value} {h : AH} (hd : decode cc pc = .ok (.lstore i, 2)) (hi : i + 1 < lv.length) (k : M w p l e R s m args below meth c nL n0 s0 Q (pc + 2) S (sL2 lv i (.long x)) st h) : M w p l e R s m args below meth c nL n0 s0 Q pc S lv (.long x :: st) h := fun H locs ls hn hR hS hl hc => lv_lstore X.1 X.2.1 hd hl (hn ▸ hi) rfl (fun ls' hl' => k H locs ls' (by rw [sL2_len]; exact hn) hR hS (lv_mono hl' (lvs_sL2 (v := .long x) hi)) hc)
theorem m_lstore_n (X : CX w p R s m args c cc nL own lev) {pc : Nat} {i : Fin 4} {x : Int64} {S : SpS} {lv st : List Value} {h : AH} (hd : decode cc pc = .ok (.lstore_n i, 1)) (hi : i.val + 1 < lv.length) (k : M w p l e R s m args below meth c nL n0 s0 Q (pc + 1) S (sL2 lv i (.long x)) st h) : M w p l e R s m args below meth c nL n0 s0 Q pc S lv (.long x :: st) h := fun H locs ls hn hR hS hl hc => lv_lstore_n X.1 X.2.1 hd rfl hl (hn ▸ hi) rfl (fun ls' hl' => k H locs ls' (by rw [sL2_len]; exact hn) hR hS (lv_mono hl' (lvs_sL2 (v := .long x) hi)) hc)
theorem m_iinc (X : CX w p R s m args c cc nL own lev) {pc i : Nat} {n : Int} {x : Int32} {S : SpS} {lv st : List Value} {h : AH} (hd : decode cc pc = .ok (.iinc i n, 3)) (hx : gL lv i = .int x) (hi : i < lv.length) (k : M w p l e R s m args below meth c nL n0 s0 Q (pc + 3) S (sL lv i (.int (x + Int32.ofInt n))) st h) : M w p l e R s m args below meth c nL n0 s0 Q pc S lv st h := by
  intro H locs ls hn hR hS hl hc
  have hm := lvs_in (w := w) lv 0 i (by rw [hx]; simp)
  rw [hx, Nat.zero_add] at hm
  obtain ⟨j, hj⟩ := List.getElem?_of_mem hm
  exact lv_iinc (v := x + Int32.ofInt n) X.1 X.2.1 hd hl (k := j) hj rfl (hn ▸ hi) rfl (fun ls' hl' => k H locs ls' (by rw [sL_len]; exact hn) hR hS (lv_mono hl' (lvs_sL (v := .int (x + Int32.ofInt n)) hi)) hc)
end MM
