theorem pI1_e {st : List Value} {f : Int32 → List Value → Prop} (h : pI1 st f) : ∃ x r, st = .int x :: r ∧ f x r := by
  unfold pI1 at h
  split at h
  · exact ⟨_, _, rfl, h⟩
  · exact h.elim
theorem pL1_e {st : List Value} {f : Int64 → List Value → Prop} (h : pL1 st f) : ∃ x r, st = .long x :: r ∧ f x r := by
  unfold pL1 at h
  split at h
  · exact ⟨_, _, rfl, h⟩
  · exact h.elim
theorem pII_e {st : List Value} {f : Int32 → Int32 → List Value → Prop} (h : pII st f) : ∃ x y r, st = .int y :: .int x :: r ∧ f x y r := by
  unfold pII at h
  split at h
  · exact ⟨_, _, _, rfl, h⟩
  · exact h.elim
theorem pLL_e {st : List Value} {f : Int64 → Int64 → List Value → Prop} (h : pLL st f) : ∃ x y r, st = .long y :: .long x :: r ∧ f x y r := by
  unfold pLL at h
  split at h
  · exact ⟨_, _, _, rfl, h⟩
  · exact h.elim
theorem pLI_e {st : List Value} {f : Int64 → Int32 → List Value → Prop} (h : pLI st f) : ∃ x y r, st = .int y :: .long x :: r ∧ f x y r := by
  unfold pLI at h
  split at h
  · exact ⟨_, _, _, rfl, h⟩
  · exact h.elim
theorem pR1_e {st : List Value} {f : Nat → List Value → Prop} (h : pR1 st f) : ∃ a r, st = .ref a :: r ∧ f a r := by
  unfold pR1 at h
  split at h
  · exact ⟨_, _, rfl, h⟩
  · exact h.elim
theorem pIR_e {st : List Value} {f : Nat → Int32 → List Value → Prop} (h : pIR st f) : ∃ a i r, st = .int i :: .ref a :: r ∧ f a i r := by
  unfold pIR at h
  split at h
  · exact ⟨_, _, _, rfl, h⟩
  · exact h.elim
theorem pIIR_e {st : List Value} {f : Nat → Int32 → Int32 → List Value → Prop} (h : pIIR st f) : ∃ a i x r, st = .int x :: .int i :: .ref a :: r ∧ f a i x r := by
  unfold pIIR at h
  split at h
  · exact ⟨_, _, _, _, rfl, h⟩
  · exact h.elim
theorem pLIR_e {st : List Value} {f : Nat → Int32 → Int64 → List Value → Prop} (h : pLIR st f) : ∃ a i x r, st = .long x :: .int i :: .ref a :: r ∧ f a i x r := by
  unfold pLIR at h
  split at h
  · exact ⟨_, _, _, _, rfl, h⟩
  · exact h.elim
theorem pRIR_e {st : List Value} {f : Nat → Int32 → Nat → List Value → Prop} (h : pRIR st f) : ∃ a i b r, st = .ref b :: .int i :: .ref a :: r ∧ f a i b r := by
  unfold pRIR at h
  split at h
  · exact ⟨_, _, _, _, rfl, h⟩
  · exact h.elim
theorem pRR_e {st : List Value} {f : Nat → Nat → List Value → Prop} (h : pRR st f) : ∃ a b r, st = .ref b :: .ref a :: r ∧ f a b r := by
  unfold pRR at h
  split at h
  · exact ⟨_, _, _, rfl, h⟩
  · exact h.elim
theorem pCP_e {st : List Value} {f : Nat → Int32 → Nat → Int32 → Int32 → List Value → Prop} (h : pCP st f) : ∃ a sp b dp n r, st = .int n :: .int dp :: .ref b :: .int sp :: .ref a :: r ∧ f a sp b dp n r := by
  unfold pCP at h
  split at h
  · exact ⟨_, _, _, _, _, _, rfl, h⟩
  · exact h.elim
theorem pV1_e {st : List Value} {f : Value → List Value → Prop} (h : pV1 st f) : ∃ v r, st = v :: r ∧ v.category = 1 ∧ f v r := by
  unfold pV1 at h
  split at h
  · exact ⟨_, _, rfl, h⟩
  · exact h.elim
theorem pV2_e {st : List Value} {f : Value → Value → List Value → Prop} (h : pV2 st f) : ∃ v u r, st = v :: u :: r ∧ v.category = 1 ∧ u.category = 1 ∧ f v u r := by
  unfold pV2 at h
  split at h
  · exact ⟨_, _, _, rfl, h⟩
  · exact h.elim
theorem pV3_e {st : List Value} {f : Value → Value → Value → List Value → Prop} (h : pV3 st f) : ∃ v u t r, st = v :: u :: t :: r ∧ v.category = 1 ∧ u.category = 1 ∧ t.category = 1 ∧ f v u t r := by
  unfold pV3 at h
  split at h
  · exact ⟨_, _, _, _, rfl, h⟩
  · exact h.elim
theorem vI_e {v : Value} {f : Int32 → Prop} (h : vI v f) : ∃ x, v = .int x ∧ f x := by
  unfold vI at h
  split at h
  · exact ⟨_, rfl, h⟩
  · exact h.elim
theorem vL_e {v : Value} {f : Int64 → Prop} (h : vL v f) : ∃ x, v = .long x ∧ f x := by
  unfold vL at h
  split at h
  · exact ⟨_, rfl, h⟩
  · exact h.elim
theorem vR_e {v : Value} {f : Nat → Prop} (h : vR v f) : ∃ x, v = .ref x ∧ f x := by
  unfold vR at h
  split at h
  · exact ⟨_, rfl, h⟩
  · exact h.elim
theorem br1_e {g : List Nat} {F : Nat → Prop} (h : br1 g F) : ∃ t, g = [t] ∧ F t := by
  unfold br1 at h
  split at h
  · exact ⟨_, rfl, h⟩
  · exact h.elim
theorem eSt_e {st : List Value} {P : Prop} (h : eSt st P) : st = [] ∧ P := by
  unfold eSt at h
  split at h
  · exact ⟨rfl, h⟩
  · exact h.elim
theorem popN_e : ∀ (n : Nat) (acc st : List Value) (f : List Value → List Value → Prop), popN n acc st f → ∃ As r, st = As.reverse ++ r ∧ As.length = n ∧ f (As ++ acc) r
  | 0, acc, st, f, h => ⟨[], st, rfl, rfl, h⟩
  | n + 1, acc, [], f, h => h.elim
  | n + 1, acc, v :: r, f, h => by
    obtain ⟨As, r', h1, h2, h3⟩ := popN_e n (v :: acc) r f h
    refine ⟨As ++ [v], r', by simp [h1], by simp [h2], by simpa using h3⟩
theorem ofI_to {x : Int32} {z : Int} (h : x.toInt = z) : x = Int32.ofInt z := by rw [← h, Int32.ofInt_toInt]
theorem ofI_ne {x : Int32} {z : Int} (h1 : -2147483648 ≤ z) (h2 : z < 2147483648) (h : x.toInt ≠ z) : ¬ x = Int32.ofInt z := by
  intro e
  apply h
  rw [e, Int32.toInt_ofInt_of_le h1 h2]
theorem swJ_in : ∀ (g : List Nat) {F : Nat → Prop} {x : Int32} (lo : Int) {P : Prop}, swJ F x lo P g → ∀ (j t : Nat), g[j]? = some t → j + 1 < g.length → x.toInt = lo + (j : Int) → F t
  | [], F, x, lo, P, h, j, t, hj, hl, hx => h.elim
  | [d], F, x, lo, P, h, j, t, hj, hl, hx => by simp at hl
  | a :: b :: r, F, x, lo, P, h, 0, t, hj, hl, hx => by
    have e : a = t := by simpa using hj
    subst e
    exact h.1 (ofI_to (by rw [hx]; simp))
  | a :: b :: r, F, x, lo, P, h, j + 1, t, hj, hl, hx => swJ_in (b :: r) (lo + 1) h.2 j t (by simpa using hj) (by simpa using hl) (by rw [hx]; omega)
theorem swJ_out : ∀ (g : List Nat) {F : Nat → Prop} {x : Int32} (lo : Int) {P : Prop}, swJ F x lo P g → P → -2147483648 ≤ lo → lo + (g.length : Int) ≤ 2147483649 → (∀ j : Nat, j + 1 < g.length → x.toInt ≠ lo + j) → ∀ (d : Nat), g.getLast? = some d → F d
  | [], F, x, lo, P, h, hP, h1, h2, hx, d, hd => h.elim
  | [a], F, x, lo, P, h, hP, h1, h2, hx, d, hd => by
    have e : a = d := by simpa using hd
    subst e
    exact h hP
  | a :: b :: r, F, x, lo, P, h, hP, h1, h2, hx, d, hd => by
    have hl : (a :: b :: r).length = r.length + 2 := by simp
    refine swJ_out (b :: r) (lo + 1) h.2 ⟨hP, ofI_ne (by omega) (by omega) (by have := hx 0 (by omega); simpa using this)⟩ (by omega) (by simp at h2 ⊢; omega) (fun j hj => ?_) d (by simpa using hd)
    have := hx (j + 1) (by simp at hj ⊢; omega)
    intro e
    apply this
    rw [e]
    omega
def YStr (y : MethodName) (bytes : ByteArray) (maxL : Nat) (ret : Option FieldType) (n : Nat) : Prop := YB y bytes maxL ret n ∧ Cond.instanceMethod y ∈ gT ∧ Cond.selects y.cls y y ∈ gT ∧ y.cls = "java/lang/String"
def LK (l : Launch) (own : String) (lev : Nat) (ini : Bool) (i : Instr) (g : List Nat) (Sp : SpT) : Prop := match i with
  | .getfield idx => ∃ ci k f, g = [ci, k, f] ∧ FL own idx ci k ∧ fI ci k = (f == 0)
  | .putfield idx => ∃ ci k f, g = [ci, k, f] ∧ FL own idx ci k ∧ fI ci k = (f == 0) ∧ (f ≠ 0 → ini = true ∧ (vwCl[ci]?).map (fun q => q.1) = some own)
  | .ldc idx => (∃ v, g = [0, v] ∧ Cond.constant own idx (cstV v) ∈ gT) ∨ (∃ i tx, g = [1, i] ∧ (own, idx, tx, i) ∈ strT)
  | .ldc_w idx => ∃ v, g = [0, v] ∧ Cond.constant own idx (cstV v) ∈ gT
  | .ldc2_w idx => ∃ v, g = [v] ∧ Cond.constantLong own idx (cstW v) ∈ gT
  | .new idx => ∃ ci r, g = [ci] ∧ vwCl[ci]? = some r ∧ Cond.classLink own idx r.1 ∈ gT ∧ Cond.instantiable r.1 r.2.2 ∈ gT ∧ Cond.initialized r.1 ∈ gT
  | .anewarray idx => ∃ co C, g = [co] ∧ ((co = 12 ∧ C = RX1) ∨ (co = 13 ∧ C = RX3)) ∧ Cond.classLink own idx C ∈ gT
  | .invokevirtual idx => ∃ n ci mc ms y bytes maxL ret lev', g = [n, ci, mc, ms] ∧ Ct l y bytes maxL ret lev' mc ms Sp ∧ ((ci ≠ 100 ∧ YV y bytes maxL ret n ci) ∨ (ci = 100 ∧ YStr y bytes maxL ret n)) ∧ lev' + 1 ≤ lev ∧ Cond.methodLink own idx y ∈ gT
  | .invokespecial idx => (g = [] ∧ Cond.methodLink own idx Lib.objectInit ∈ gT) ∨ (∃ n mc ms y bytes maxL lev', g = [n, mc, ms] ∧ Ct l y bytes maxL none lev' mc ms Sp ∧ YI y bytes maxL n ∧ lev' + 1 ≤ lev ∧ Cond.methodLink own idx y ∈ gT)
  | .invokestatic idx => (∃ n mc ms y bytes maxL ret lev', g = [0, n, mc, ms] ∧ Ct l y bytes maxL ret lev' mc ms Sp ∧ YS y bytes maxL ret n ∧ lev' + 1 ≤ lev ∧ Cond.methodLink own idx y ∈ gT) ∨ (g = [1] ∧ Cond.methodLink own idx Lib.Math.min.name ∈ gT) ∨ (g = [2] ∧ Cond.methodLink own idx Lib.Math.max.name ∈ gT) ∨ ((g = [3] ∨ g = [4]) ∧ Cond.methodLink own idx arraycopyName ∈ gT)
  | _ => True
def isTs (i : Instr) : Bool := match i with
  | .tableswitch _ _ _ _ => true
  | .nop => true
  | _ => false
def brB (pc : Nat) (i : Instr) (g : List Nat) : Bool := match i with
  | .ifCond _ off => g == [((pc : Int) + off).toNat] && decide (0 ≤ (pc : Int) + off)
  | .if_icmp _ off => g == [((pc : Int) + off).toNat] && decide (0 ≤ (pc : Int) + off)
  | .goto off => g == [((pc : Int) + off).toNat] && decide (0 ≤ (pc : Int) + off)
  | .tableswitch d lo hi offs => decide (-2147483648 ≤ lo) && decide (hi < 2147483648) && decide (lo ≤ hi) && decide ((offs.size : Int) = hi - lo + 1) && g == offs.toList.map (fun o => ((pc : Int) + o).toNat) ++ [((pc : Int) + d).toNat] && offs.toList.all (fun o => decide (0 ≤ (pc : Int) + o)) && decide (0 ≤ (pc : Int) + d)
  | _ => true
/-- an item is what stands in the code -/
def itB (cc : ByteArray) (x : Item) : Bool := brB x.1 x.2.1 x.2.2.1 && (match x.2.1 with
  | .nop => true
  | i => match decode cc x.1 with
    | .ok (j, n) => decide (j = i) && (isTs i || n == ilen i)
    | _ => false)
def chB (L : List Item) : Bool := match L with
  | [] => true
  | [_] => true
  | a :: b :: r => (isTs a.2.1 || (a.1 + ilen a.2.1 == b.1)) && chB (b :: r)
def okB (cc : ByteArray) (L : List Item) : Bool := L.all (itB cc) && chB L
def LKs (l : Launch) (own : String) (lev : Nat) (ini : Bool) (L : List Item) : Prop := match L with
  | [] => True
  | x :: r => LK l own lev ini x.2.1 x.2.2.1 x.2.2.2 ∧ LKs l own lev ini r
theorem itB_d {cc : ByteArray} {pc : Nat} {i : Instr} {g : List Nat} {Sp : SpT} (h : itB cc (pc, i, g, Sp) = true) (hn : isTs i = false) : decode cc pc = .ok (i, ilen i) := by
  simp only [itB, Bool.and_eq_true] at h
  obtain ⟨-, h⟩ := h
  split at h
  · cases hn
  · split at h
    · rename_i j n hd
      simp only [Bool.and_eq_true, decide_eq_true_eq, Bool.or_eq_true, beq_iff_eq] at h
      obtain ⟨rfl, h | h⟩ := h
      · rw [hn] at h; cases h
      · rw [hd, h]
    · cases h
theorem itB_t {cc : ByteArray} {pc : Nat} {d lo hi : Int} {offs : Array Int} {g : List Nat} {Sp : SpT} (h : itB cc (pc, .tableswitch d lo hi offs, g, Sp) = true) : ∃ n, decode cc pc = .ok (.tableswitch d lo hi offs, n) := by
  simp only [itB, Bool.and_eq_true] at h
  obtain ⟨-, h⟩ := h
  split at h
  · rename_i j n hd
    simp only [Bool.and_eq_true, decide_eq_true_eq] at h
    obtain ⟨rfl, -⟩ := h
    exact ⟨n, hd⟩
  · cases h
theorem itB_b {cc : ByteArray} {x : Item} (h : itB cc x = true) : brB x.1 x.2.1 x.2.2.1 = true := by
  simp only [itB, Bool.and_eq_true] at h
  exact h.1
section SND
variable {w : Wld} {p : Program} {l : Launch} {e : Env} {R : Room} {s : State} {m : MethodId} {args : Array Value} {below : List Frame} {meth : Method} {c : Code} {cc : ByteArray} {nL n0 s0 lev : Nat} {own : String} {Q : State → Prop}
theorem m_callStr (X : CX w p R s m args c cc nL own lev) {pc idx b mc ms n lev' maxL : Nat} {y : MethodName} {bytes : ByteArray} {ret : Option FieldType} {Sp : SpT} {As : List Value} {S : SpS} {lv st : List Value} {h : AH} (hd : decode cc pc = .ok (.invokevirtual idx, 3)) (hCt : Ct l y bytes maxL ret lev' mc ms Sp) (hY : YStr y bytes maxL ret n) (hlev : lev' + 1 ≤ lev) (hlink : Cond.methodLink own idx y ∈ gT) (hn1 : As.length = n) (hb1 : 100000 ≤ b) (hb2 : b < 100007) (hst : (st.map fun v => v.category).sum ≤ 8) (hcap : nC S + kkC w + mc ≤ n0 + R.cells ∧ sC S + kkS w + ms ≤ s0 + R.slots)
    (kk : Sp S (.ref b :: As) h (fun v S' h' => M w p l e R s m args below meth c nL n0 s0 Q (pc + 3) S' lv (v.toList ++ st) h')) : M w p l e R s m args below meth c nL n0 s0 Q pc S lv (As.reverse ++ .ref b :: st) h := by
  intro H locs ls hn hR hS hl hc
  obtain ⟨hB, hi, hs, hcn⟩ := hY
  have hE := X.2.2.2.2.2.1.2.1.2.1
  have had : ad w b = w.2.1 (b - 100000) := if_neg (by omega)
  have hrec := vk_recv hE (show b - 100000 < 7 by omega) hS
  rw [← had, ← hcn] at hrec
  have hts := X.2.2.2.2.1
  have hcat := cat_map w st
  have hrun := va_runV (meth := meth) (R := R) (cells := nC S + kkC w - n0) (slots := sC S + kkS w - s0) (locs := locs) (below := below) (e := e) (As := As.map (tv w)) (rest := st.map (tv w)) (g := F0 m pc ls ((As.map (tv w)).reverse ++ .ref (ad w b) :: st.map (tv w))) ⟨X.1, X.2.1, X.2.2.1, X.2.2.2.1, hts⟩ (hCt w S (.ref b :: As) h _ kk) ⟨yb_cb X hB hlev hlink, hts _ hi, hts _ hs⟩ (b := ad w b) (C := y.cls) (H := H)
    ⟨Pcx_blind w S h _, hrec, fun U hU hW => ⟨rfl, by rw [hU]; exact hR, Kn_warm X.2.2.2.2.2.1 hS hU hW⟩⟩ rfl (by simpa using hn1) hl.1 rfl (lv_room (by omega)) hd (by omega)
  rw [List.map_append, List.map_cons, List.map_reverse]
  exact m_after X hn hS hl hc hcap hrun (fun v S' h' q => q)
theorem cat4 : ∀ (r : List Value), r.length ≤ 4 → (r.map fun v => v.category).sum ≤ 8 := by
  intro r hr
  have h2 : ∀ v : Value, v.category ≤ 2 := by intro v; cases v <;> simp [Value.category]
  have key : ∀ r : List Value, (r.map fun v => v.category).sum ≤ 2 * r.length := by
    intro r
    induction r with
    | nil => simp
    | cons v r ih => have := h2 v; simp only [List.map_cons, List.sum_cons, List.length_cons]; omega
  have := key r
  omega
/-- a contract's end may be weakened -/
def SpW (Sp : SpT) : SpT := fun S as h K => ∃ K0, Sp S as h K0 ∧ ∀ v S' h', K0 v S' h' → K v S' h'
theorem Qcx_mono {w : Wld} {S : SpS} {mc ms : Nat} {K0 K : Option Value → SpS → AH → Prop} (hK : ∀ v S' h', K0 v S' h' → K v S' h') {a : Array Value} {st : State} {oc : Outcome} {t : State} (h : Qcx w S mc ms K0 a st oc t) : Qcx w S mc ms K a st oc t := by
  obtain ⟨⟨v, S', h', h1, h2, h3⟩, h4⟩ := h
  exact ⟨⟨v, S', h', h1, hK _ _ _ h2, h3⟩, h4⟩
theorem Ct_w {y : MethodName} {bytes : ByteArray} {maxL lev' mc ms : Nat} {ret : Option FieldType} {Sp : SpT} (hC : Ct l y bytes maxL ret lev' mc ms Sp) : Ct l y bytes maxL ret lev' mc ms (SpW Sp) := by
  intro w S as h K ⟨K0, h1, h2⟩
  have hM := hC w S as h K0 h1
  exact MetFree.mono hM (fun _ _ q => q) (fun _ _ _ _ _ q => q) (fun a st oc t _ q => ⟨Qcx_mono h2 q.1, q.2⟩)
def RtOK (w : Wld) (p : Program) (l : Launch) (e : Env) (R : Room) (s : State) (m : MethodId) (args : Array Value) (below : List Frame) (meth : Method) (c : Code) (cc : ByteArray) (nL n0 s0 : Nat) (Q : State → Prop) (Rt : Option Value → SpS → AH → Prop) : Prop :=
  (∀ pc S lv h x, decode cc pc = .ok (.ireturn, 1) → Rt (some (.int x)) S h → M w p l e R s m args below meth c nL n0 s0 Q pc S lv [.int x] h) ∧
  (∀ pc S lv h x, decode cc pc = .ok (.lreturn, 1) → Rt (some (.long x)) S h → M w p l e R s m args below meth c nL n0 s0 Q pc S lv [.long x] h) ∧
  (∀ pc S lv h x, decode cc pc = .ok (.areturn, 1) → Rt (some (.ref x)) S h → M w p l e R s m args below meth c nL n0 s0 Q pc S lv [.ref x] h) ∧
  (∀ pc S lv h, decode cc pc = .ok (.return_, 1) → Rt none S h → M w p l e R s m args below meth c nL n0 s0 Q pc S lv [] h)
theorem capO_of {cap : Nat × Nat} {S : SpS} {mc ms : Nat} (h : capO cap S mc ms) (hc : n0 ≤ nC S + kkC w ∧ nC S + kkC w ≤ n0 + R.cells ∧ s0 ≤ sC S + kkS w ∧ sC S + kkS w ≤ s0 + R.slots) (hcap : cap.1 + kkC w = n0 + R.cells ∧ cap.2 + kkS w = s0 + R.slots) : nC S + kkC w + mc ≤ n0 + R.cells ∧ sC S + kkS w + ms ≤ s0 + R.slots := by
  obtain ⟨hq1_, hq2_⟩ := hcap
  rcases h with ⟨rfl, rfl⟩ | h
  · omega
  · exact ⟨by omega, by omega⟩
/-- what holds in M's own premises may be used -/
theorem M_cap {pc : Nat} {S : SpS} {lv st : List Value} {h : AH} (k : (n0 ≤ nC S + kkC w ∧ nC S + kkC w ≤ n0 + R.cells ∧ s0 ≤ sC S + kkS w ∧ sC S + kkS w ≤ s0 + R.slots) → M w p l e R s m args below meth c nL n0 s0 Q pc S lv st h) : M w p l e R s m args below meth c nL n0 s0 Q pc S lv st h := fun H locs ls hn hR hS hl hc => k hc H locs ls hn hR hS hl hc
set_option maxHeartbeats 4000000 in
theorem stp_snd (X : CX w p R s m args c cc nL own lev) {J : Nat → SpS → List Value → List Value → AH → Prop} (hJM : ∀ t S lv st h, J t S lv st h → M w p l e R s m args below meth c nL n0 s0 Q t S lv st h) {Rt : Option Value → SpS → AH → Prop} {cap : Nat × Nat} {ini : Bool} {i : Instr} {pc : Nat} {g : List Nat} {Sp : SpT} {S : SpS} {lv st : List Value} {h : AH} {k : SpS → List Value → List Value → AH → Prop} (hlev : 1 ≤ lev) (hz0 : s.heap.size + kkC w = w.1 + n0) (hini : ini = true → meth.name = "<init>") (hcap : cap.1 + kkC w = n0 + R.cells ∧ cap.2 + kkS w = s0 + R.slots) (hit : itB cc (pc, i, g, Sp) = true) (hlk : LK l own lev ini i g Sp) (hret : RtOK w p l e R s m args below meth c cc nL n0 s0 Q Rt)
    (hk : isTs i = false → ∀ S lv st h, k S lv st h → M w p l e R s m args below meth c nL n0 s0 Q (pc + ilen i) S lv st h) (hs : stp J Rt cap i pc g Sp S lv st h k) : M w p l e R s m args below meth c nL n0 s0 Q pc S lv st h := by
  have hbr := itB_b hit
  cases i with
  | nop => exact hJM _ _ _ _ _ hs
  | iconst n =>
    have hd := itB_d hit rfl
    have hk := hk rfl
    exact m_iconst X hd (hk _ _ _ _ hs)
  | bipush n =>
    have hd := itB_d hit rfl
    have hk := hk rfl
    exact m_bipush X hd (hk _ _ _ _ hs)
  | sipush n =>
    have hd := itB_d hit rfl
    have hk := hk rfl
    exact m_sipush X hd (hk _ _ _ _ hs)
  | lconst n =>
    have hd := itB_d hit rfl
    have hk := hk rfl
    exact m_lconst X hd (hk _ _ _ _ hs)
  | iload i =>
    have hd := itB_d hit rfl
    have hk := hk rfl
    obtain ⟨x, hx, h1⟩ := vI_e hs
    exact m_iload X hd hx (hk _ _ _ _ h1)
  | iload_n i =>
    have hd := itB_d hit rfl
    have hk := hk rfl
    obtain ⟨x, hx, h1⟩ := vI_e hs
    exact m_iload_n X hd hx (hk _ _ _ _ h1)
  | lload i =>
    have hd := itB_d hit rfl
    have hk := hk rfl
    obtain ⟨x, hx, h1⟩ := vL_e hs
    exact m_lload X hd hx (hk _ _ _ _ h1)
  | lload_n i =>
    have hd := itB_d hit rfl
    have hk := hk rfl
    obtain ⟨x, hx, h1⟩ := vL_e hs
    exact m_lload_n X hd hx (hk _ _ _ _ h1)
  | aload i =>
    have hd := itB_d hit rfl
    have hk := hk rfl
    obtain ⟨x, hx, h1⟩ := vR_e hs
    exact m_aload X hd hx (hk _ _ _ _ h1)
  | aload_n i =>
    have hd := itB_d hit rfl
    have hk := hk rfl
    obtain ⟨x, hx, h1⟩ := vR_e hs
    exact m_aload_n X hd hx (hk _ _ _ _ h1)
  | istore i =>
    have hd := itB_d hit rfl
    have hk := hk rfl
    obtain ⟨x, r, rfl, h1, h2⟩ := pI1_e hs
    exact m_istore X hd h1 (hk _ _ _ _ h2)
  | istore_n i =>
    have hd := itB_d hit rfl
    have hk := hk rfl
    obtain ⟨x, r, rfl, h1, h2⟩ := pI1_e hs
    exact m_istore_n X hd h1 (hk _ _ _ _ h2)
  | lstore i =>
    have hd := itB_d hit rfl
    have hk := hk rfl
    obtain ⟨x, r, rfl, h1, h2⟩ := pL1_e hs
    exact m_lstore X hd h1 (hk _ _ _ _ h2)
  | lstore_n i =>
    have hd := itB_d hit rfl
    have hk := hk rfl
    obtain ⟨x, r, rfl, h1, h2⟩ := pL1_e hs
    exact m_lstore_n X hd h1 (hk _ _ _ _ h2)
  | astore i =>
    have hd := itB_d hit rfl
    have hk := hk rfl
    obtain ⟨x, r, rfl, h1, h2⟩ := pR1_e hs
    exact m_astore X hd h1 (hk _ _ _ _ h2)
  | astore_n i =>
    have hd := itB_d hit rfl
    have hk := hk rfl
    obtain ⟨x, r, rfl, h1, h2⟩ := pR1_e hs
    exact m_astore_n X hd h1 (hk _ _ _ _ h2)
  | iinc i n =>
    have hd := itB_d hit rfl
    have hk := hk rfl
    obtain ⟨x, hx, h1, h2⟩ := vI_e hs
    exact m_iinc X hd hx h1 (hk _ _ _ _ h2)
  | iadd =>
    have hd := itB_d hit rfl
    have hk := hk rfl
    obtain ⟨x, y, r, rfl, h1⟩ := pII_e hs
    exact m_iadd X hd (hk _ _ _ _ h1)
  | isub =>
    have hd := itB_d hit rfl
    have hk := hk rfl
    obtain ⟨x, y, r, rfl, h1⟩ := pII_e hs
    exact m_isub X hd (hk _ _ _ _ h1)
  | imul =>
    have hd := itB_d hit rfl
    have hk := hk rfl
    obtain ⟨x, y, r, rfl, h1⟩ := pII_e hs
    exact m_imul X hd (hk _ _ _ _ h1)
  | iand =>
    have hd := itB_d hit rfl
    have hk := hk rfl
    obtain ⟨x, y, r, rfl, h1⟩ := pII_e hs
    exact m_iand X hd (hk _ _ _ _ h1)
  | ior =>
    have hd := itB_d hit rfl
    have hk := hk rfl
    obtain ⟨x, y, r, rfl, h1⟩ := pII_e hs
    exact m_ior X hd (hk _ _ _ _ h1)
  | ixor =>
    have hd := itB_d hit rfl
    have hk := hk rfl
    obtain ⟨x, y, r, rfl, h1⟩ := pII_e hs
    exact m_ixor X hd (hk _ _ _ _ h1)
  | ishl =>
    have hd := itB_d hit rfl
    have hk := hk rfl
    obtain ⟨x, y, r, rfl, h1⟩ := pII_e hs
    exact m_ishl X hd (hk _ _ _ _ h1)
  | ishr =>
    have hd := itB_d hit rfl
    have hk := hk rfl
    obtain ⟨x, y, r, rfl, h1⟩ := pII_e hs
    exact m_ishr X hd (hk _ _ _ _ h1)
  | iushr =>
    have hd := itB_d hit rfl
    have hk := hk rfl
    obtain ⟨x, y, r, rfl, h1⟩ := pII_e hs
    exact m_iushr X hd (hk _ _ _ _ h1)
  | idiv =>
    have hd := itB_d hit rfl
    have hk := hk rfl
    obtain ⟨x, y, r, rfl, h0, h1⟩ := pII_e hs
    exact m_idiv X hd h0 (hk _ _ _ _ h1)
  | irem =>
    have hd := itB_d hit rfl
    have hk := hk rfl
    obtain ⟨x, y, r, rfl, h0, h1⟩ := pII_e hs
    exact m_irem X hd h0 (hk _ _ _ _ h1)
  | ladd =>
    have hd := itB_d hit rfl
    have hk := hk rfl
    obtain ⟨x, y, r, rfl, h1⟩ := pLL_e hs
    exact m_ladd X hd (hk _ _ _ _ h1)
  | lsub =>
    have hd := itB_d hit rfl
    have hk := hk rfl
    obtain ⟨x, y, r, rfl, h1⟩ := pLL_e hs
    exact m_lsub X hd (hk _ _ _ _ h1)
  | lmul =>
    have hd := itB_d hit rfl
    have hk := hk rfl
    obtain ⟨x, y, r, rfl, h1⟩ := pLL_e hs
    exact m_lmul X hd (hk _ _ _ _ h1)
  | land =>
    have hd := itB_d hit rfl
    have hk := hk rfl
    obtain ⟨x, y, r, rfl, h1⟩ := pLL_e hs
    exact m_land X hd (hk _ _ _ _ h1)
  | lor =>
    have hd := itB_d hit rfl
    have hk := hk rfl
    obtain ⟨x, y, r, rfl, h1⟩ := pLL_e hs
    exact m_lor X hd (hk _ _ _ _ h1)
  | lcmp =>
    have hd := itB_d hit rfl
    have hk := hk rfl
    obtain ⟨x, y, r, rfl, h1⟩ := pLL_e hs
    exact m_lcmp X hd (hk _ _ _ _ h1)
  | ldiv =>
    have hd := itB_d hit rfl
    have hk := hk rfl
    obtain ⟨x, y, r, rfl, h0, h1⟩ := pLL_e hs
    exact m_ldiv X hd h0 (hk _ _ _ _ h1)
  | lrem =>
    have hd := itB_d hit rfl
    have hk := hk rfl
    obtain ⟨x, y, r, rfl, h0, h1⟩ := pLL_e hs
    exact m_lrem X hd h0 (hk _ _ _ _ h1)
  | lshl =>
    have hd := itB_d hit rfl
    have hk := hk rfl
    obtain ⟨x, y, r, rfl, h1⟩ := pLI_e hs
    exact m_lshl X hd (hk _ _ _ _ h1)
  | lshr =>
    have hd := itB_d hit rfl
    have hk := hk rfl
    obtain ⟨x, y, r, rfl, h1⟩ := pLI_e hs
    exact m_lshr X hd (hk _ _ _ _ h1)
  | i2l =>
    have hd := itB_d hit rfl
    have hk := hk rfl
    obtain ⟨x, r, rfl, h1⟩ := pI1_e hs
    exact m_i2l X hd (hk _ _ _ _ h1)
  | i2b =>
    have hd := itB_d hit rfl
    have hk := hk rfl
    obtain ⟨x, r, rfl, h1⟩ := pI1_e hs
    exact m_i2b X hd (hk _ _ _ _ h1)
  | i2s =>
    have hd := itB_d hit rfl
    have hk := hk rfl
    obtain ⟨x, r, rfl, h1⟩ := pI1_e hs
    exact m_i2s X hd (hk _ _ _ _ h1)
  | l2i =>
    have hd := itB_d hit rfl
    have hk := hk rfl
    obtain ⟨x, r, rfl, h1⟩ := pL1_e hs
    exact m_l2i X hd (hk _ _ _ _ h1)
  | dup =>
    have hd := itB_d hit rfl
    have hk := hk rfl
    obtain ⟨v, r, rfl, h0, h1⟩ := pV1_e hs
    exact m_dup X hd h0 (hk _ _ _ _ h1)
  | pop =>
    have hd := itB_d hit rfl
    have hk := hk rfl
    obtain ⟨v, r, rfl, h0, h1⟩ := pV1_e hs
    exact m_pop X hd h0 (hk _ _ _ _ h1)
  | dup_x2 =>
    have hd := itB_d hit rfl
    have hk := hk rfl
    obtain ⟨v, u, t, r, rfl, h0, h00, h000, h1⟩ := pV3_e hs
    exact m_dup_x2 X hd h0 h00 h000 (hk _ _ _ _ h1)
  | dup_x1 =>
    have hd := itB_d hit rfl
    have hk := hk rfl
    obtain ⟨v, u, r, rfl, h0, h00, h1⟩ := pV2_e hs
    exact m_dup_x1 X hd h0 h00 (hk _ _ _ _ h1)
  | dup2 =>
    have hd := itB_d hit rfl
    have hk := hk rfl
    obtain ⟨v, u, r, rfl, h0, h00, h1⟩ := pV2_e hs
    exact m_dup2 X hd h0 h00 (hk _ _ _ _ h1)
  | ifCond cond off =>
    simp only [brB, Bool.and_eq_true, beq_iff_eq, decide_eq_true_eq] at hbr
    cases cond
    · have hd := itB_d hit rfl
      have hk := hk rfl
      obtain ⟨x, r, rfl, h1⟩ := pI1_e hs
      obtain ⟨t, hg, h2, h3⟩ := br1_e h1
      rw [hbr.1] at hg
      have ht : ((pc : Int) + off).toNat = t := by simpa using hg
      exact m_if_eq X hd (by omega) (fun q => hJM _ _ _ _ _ (h2 q)) (fun q => hk _ _ _ _ (h3 q))
    · have hd := itB_d hit rfl
      have hk := hk rfl
      obtain ⟨x, r, rfl, h1⟩ := pI1_e hs
      obtain ⟨t, hg, h2, h3⟩ := br1_e h1
      rw [hbr.1] at hg
      have ht : ((pc : Int) + off).toNat = t := by simpa using hg
      exact m_if_ne X hd (by omega) (fun q => hJM _ _ _ _ _ (h2 q)) (fun q => hk _ _ _ _ (h3 q))
    · have hd := itB_d hit rfl
      have hk := hk rfl
      obtain ⟨x, r, rfl, h1⟩ := pI1_e hs
      obtain ⟨t, hg, h2, h3⟩ := br1_e h1
      rw [hbr.1] at hg
      have ht : ((pc : Int) + off).toNat = t := by simpa using hg
      exact m_if_lt X hd (by omega) (fun q => hJM _ _ _ _ _ (h2 q)) (fun q => hk _ _ _ _ (h3 q))
    · have hd := itB_d hit rfl
      have hk := hk rfl
      obtain ⟨x, r, rfl, h1⟩ := pI1_e hs
      obtain ⟨t, hg, h2, h3⟩ := br1_e h1
      rw [hbr.1] at hg
      have ht : ((pc : Int) + off).toNat = t := by simpa using hg
      exact m_if_ge X hd (by omega) (fun q => hJM _ _ _ _ _ (h2 q)) (fun q => hk _ _ _ _ (h3 q))
    · have hd := itB_d hit rfl
      have hk := hk rfl
      obtain ⟨x, r, rfl, h1⟩ := pI1_e hs
      obtain ⟨t, hg, h2, h3⟩ := br1_e h1
      rw [hbr.1] at hg
      have ht : ((pc : Int) + off).toNat = t := by simpa using hg
      exact m_if_gt X hd (by omega) (fun q => hJM _ _ _ _ _ (h2 q)) (fun q => hk _ _ _ _ (h3 q))
    · have hd := itB_d hit rfl
      have hk := hk rfl
      obtain ⟨x, r, rfl, h1⟩ := pI1_e hs
      obtain ⟨t, hg, h2, h3⟩ := br1_e h1
      rw [hbr.1] at hg
      have ht : ((pc : Int) + off).toNat = t := by simpa using hg
      exact m_if_le X hd (by omega) (fun q => hJM _ _ _ _ _ (h2 q)) (fun q => hk _ _ _ _ (h3 q))
  | if_icmp cond off =>
    simp only [brB, Bool.and_eq_true, beq_iff_eq, decide_eq_true_eq] at hbr
    cases cond
    · have hd := itB_d hit rfl
      have hk := hk rfl
      obtain ⟨x, y, r, rfl, h1⟩ := pII_e hs
      obtain ⟨t, hg, h2, h3⟩ := br1_e h1
      rw [hbr.1] at hg
      have ht : ((pc : Int) + off).toNat = t := by simpa using hg
      exact m_icmp_eq X hd (by omega) (fun q => hJM _ _ _ _ _ (h2 q)) (fun q => hk _ _ _ _ (h3 q))
    · have hd := itB_d hit rfl
      have hk := hk rfl
      obtain ⟨x, y, r, rfl, h1⟩ := pII_e hs
      obtain ⟨t, hg, h2, h3⟩ := br1_e h1
      rw [hbr.1] at hg
      have ht : ((pc : Int) + off).toNat = t := by simpa using hg
      exact m_icmp_ne X hd (by omega) (fun q => hJM _ _ _ _ _ (h2 q)) (fun q => hk _ _ _ _ (h3 q))
    · have hd := itB_d hit rfl
      have hk := hk rfl
      obtain ⟨x, y, r, rfl, h1⟩ := pII_e hs
      obtain ⟨t, hg, h2, h3⟩ := br1_e h1
      rw [hbr.1] at hg
      have ht : ((pc : Int) + off).toNat = t := by simpa using hg
      exact m_icmp_lt X hd (by omega) (fun q => hJM _ _ _ _ _ (h2 q)) (fun q => hk _ _ _ _ (h3 q))
    · have hd := itB_d hit rfl
      have hk := hk rfl
      obtain ⟨x, y, r, rfl, h1⟩ := pII_e hs
      obtain ⟨t, hg, h2, h3⟩ := br1_e h1
      rw [hbr.1] at hg
      have ht : ((pc : Int) + off).toNat = t := by simpa using hg
      exact m_icmp_ge X hd (by omega) (fun q => hJM _ _ _ _ _ (h2 q)) (fun q => hk _ _ _ _ (h3 q))
    · have hd := itB_d hit rfl
      have hk := hk rfl
      obtain ⟨x, y, r, rfl, h1⟩ := pII_e hs
      obtain ⟨t, hg, h2, h3⟩ := br1_e h1
      rw [hbr.1] at hg
      have ht : ((pc : Int) + off).toNat = t := by simpa using hg
      exact m_icmp_gt X hd (by omega) (fun q => hJM _ _ _ _ _ (h2 q)) (fun q => hk _ _ _ _ (h3 q))
    · have hd := itB_d hit rfl
      have hk := hk rfl
      obtain ⟨x, y, r, rfl, h1⟩ := pII_e hs
      obtain ⟨t, hg, h2, h3⟩ := br1_e h1
      rw [hbr.1] at hg
      have ht : ((pc : Int) + off).toNat = t := by simpa using hg
      exact m_icmp_le X hd (by omega) (fun q => hJM _ _ _ _ _ (h2 q)) (fun q => hk _ _ _ _ (h3 q))
  | goto off =>
    have hd := itB_d hit rfl
    have hk := hk rfl
    simp only [brB, Bool.and_eq_true, beq_iff_eq, decide_eq_true_eq] at hbr
    obtain ⟨t, hg, h2⟩ := br1_e hs
    rw [hbr.1] at hg
    have ht : ((pc : Int) + off).toNat = t := by simpa using hg
    exact m_goto X hd (by omega) (hJM _ _ _ _ _ h2)
  | tableswitch d lo hi offs =>
    obtain ⟨n, hd⟩ := itB_t hit
    obtain ⟨x, r, rfl, h1⟩ := pI1_e hs
    simp only [brB, Bool.and_eq_true, beq_iff_eq, decide_eq_true_eq, List.all_eq_true] at hbr
    obtain ⟨⟨⟨⟨⟨⟨b6, b7⟩, b1⟩, b2⟩, b3⟩, b4⟩, b5⟩ := hbr
    have b3 : g = offs.toList.map (fun o => ((pc : Int) + o).toNat) ++ [((pc : Int) + d).toNat] := b3
    refine m_tsw X hd b1 b2 (fun j off hj hx => ?_) (fun hx => ?_)
    · have hm : off ∈ offs.toList := List.mem_of_getElem? (i := j) (by simpa using hj)
      have h0 := b4 off hm
      have hjl : j < offs.toList.length := by
        have := (Array.getElem?_eq_some_iff.mp hj).1
        simpa using this
      refine ⟨((pc : Int) + off).toNat, by omega, hJM _ _ _ _ _ (swJ_in g lo h1 j _ ?_ ?_ hx)⟩
      · rw [b3, List.getElem?_append_left (by simpa using hjl), List.getElem?_map, show offs.toList[j]? = some off by simpa using hj]
        rfl
      · rw [b3]
        simp only [List.length_append, List.length_map, List.length_singleton]
        omega
    · have hgl : (g.length : Int) = hi - lo + 2 := by
        rw [b3]
        simp only [List.length_append, List.length_map, List.length_singleton, Array.length_toList]
        omega
      exact ⟨((pc : Int) + d).toNat, by omega, hJM _ _ _ _ _ (swJ_out g lo h1 trivial (by omega) (by omega) (fun j hj => by omega) _ (by rw [b3]; simp))⟩
  | getfield idx =>
    have hd := itB_d hit rfl
    have hk := hk rfl
    obtain ⟨ci, kk, f, rfl, hF, hf⟩ := hlk
    obtain ⟨a, r, rfl, h1, h2⟩ := pR1_e hs
    cases f with
    | zero => exact m_getI X hd hF h1 hf (hk _ _ _ _ h2)
    | succ f => exact m_getR X hd hF h1 hf (hk _ _ _ _ h2)
  | putfield idx =>
    have hd := itB_d hit rfl
    have hk := hk rfl
    obtain ⟨ci, kk, f, rfl, hF, hf, hfin⟩ := hlk
    cases f with
    | zero =>
      obtain ⟨a, x, r, rfl, h1, h2, h3⟩ := pIR_e hs
      exact m_putI X hd hF h1 hf h2 (hk _ _ _ _ h3)
    | succ f =>
      obtain ⟨a, b, r, rfl, h1, h2⟩ := pRR_e hs
      obtain ⟨q1, q2⟩ := hfin (by simp)
      exact m_putR X hd hF q2 (hini q1) h1 hf (hk _ _ _ _ h2)
  | iaload =>
    have hd := itB_d hit rfl
    have hk := hk rfl
    obtain ⟨a, i, r, rfl, h1, h2, h3⟩ := pIR_e hs
    exact m_iald X hd h1 h2 (hk _ _ _ _ h3)
  | laload =>
    have hd := itB_d hit rfl
    have hk := hk rfl
    obtain ⟨a, i, r, rfl, h1, h2, h3⟩ := pIR_e hs
    exact m_lald X hd h1 h2 (hk _ _ _ _ h3)
  | aaload =>
    have hd := itB_d hit rfl
    have hk := hk rfl
    obtain ⟨a, i, r, rfl, h1, h2, h3⟩ := pIR_e hs
    exact m_aald X hd h1 h2 (hk _ _ _ _ h3)
  | iastore =>
    have hd := itB_d hit rfl
    have hk := hk rfl
    obtain ⟨a, i, x, r, rfl, h1, h2, h3⟩ := pIIR_e hs
    exact m_iast X hd h1 h2 (hk _ _ _ _ h3)
  | lastore =>
    have hd := itB_d hit rfl
    have hk := hk rfl
    obtain ⟨a, i, x, r, rfl, h1, h2, h3⟩ := pLIR_e hs
    exact m_last X hd h1 h2 (hk _ _ _ _ h3)
  | aastore =>
    have hd := itB_d hit rfl
    have hk := hk rfl
    obtain ⟨a, i, b, r, rfl, h1, h2, h3⟩ := pRIR_e hs
    exact m_aast X hd h1 h2 hz0 (hk _ _ _ _ h3)
  | arraylength =>
    have hd := itB_d hit rfl
    have hk := hk rfl
    obtain ⟨a, r, rfl, h1, h2⟩ := pR1_e hs
    exact m_alen X hd h1 (hk _ _ _ _ h2)
  | ldc idx =>
    have hd := itB_d hit rfl
    have hk := hk rfl
    rcases hlk with ⟨v, rfl, hw⟩ | ⟨i, tx, rfl, hw⟩
    · exact m_ldcI X hd hw (hk _ _ _ _ (hs _ rfl))
    · exact m_ldcS X hd hw (hk _ _ _ _ hs)
  | ldc_w idx =>
    have hd := itB_d hit rfl
    have hk := hk rfl
    obtain ⟨v, rfl, hw⟩ := hlk
    exact m_ldcw X hd hw (hk _ _ _ _ (hs _ rfl))
  | ldc2_w idx =>
    have hd := itB_d hit rfl
    have hk := hk rfl
    obtain ⟨v, rfl, hw⟩ := hlk
    exact m_ldc2 X hd hw (hk _ _ _ _ (hs _ rfl))
  | new idx =>
    have hd := itB_d hit rfl
    have hk := hk rfl
    obtain ⟨ci, r, rfl, h1, h2, h3, h4⟩ := hlk
    obtain ⟨⟨b1, b2, b3⟩, b4⟩ := hs
    exact m_new X hd h1 h2 h3 h4 b1 ⟨by have := hcap.1; omega, by have := hcap.2; omega⟩ (hk _ _ _ _ b4)
  | newarray at0 =>
    cases at0
    · exact False.elim hs
    · exact False.elim hs
    · exact False.elim hs
    · exact False.elim hs
    · exact False.elim hs
    · exact False.elim hs
    · have hd := itB_d hit rfl
      have hk := hk rfl
      obtain ⟨n, r, rfl, ⟨b0, b1, b2, b3, b4⟩, b5⟩ := pI1_e hs
      exact m_newa X hd b0 rfl b1 b2 ⟨by have := hcap.1; omega, by have := hcap.2; omega⟩ (hk _ _ _ _ b5)
    · have hd := itB_d hit rfl
      have hk := hk rfl
      obtain ⟨n, r, rfl, ⟨b0, b1, b2, b3, b4⟩, b5⟩ := pI1_e hs
      exact m_newl X hd b0 rfl b1 b2 ⟨by have := hcap.1; omega, by have := hcap.2; omega⟩ (hk _ _ _ _ b5)
  | anewarray idx =>
    have hd := itB_d hit rfl
    have hk := hk rfl
    obtain ⟨co, C, rfl, h1, h2⟩ := hlk
    obtain ⟨n, r, rfl, ⟨b0, b1, b2, b3, b4⟩, b5⟩ := pI1_e hs
    exact m_newq X hd h1 h2 b0 rfl b1 b2 ⟨by have := hcap.1; omega, by have := hcap.2; omega⟩ (hk _ _ _ _ b5)
  | invokevirtual idx =>
    have hd := itB_d hit rfl
    have hk := hk rfl
    obtain ⟨n, ci, mc, ms, y, bytes, maxL, ret, lev', rfl, hCt, hY, hl', hlink⟩ := hlk
    obtain ⟨As, r0, rfl, hA, hs1⟩ := popN_e _ _ _ _ hs
    obtain ⟨b, r, rfl, hq1, hq2, hr, hcp, hsp⟩ := pR1_e hs1
    rw [List.append_nil] at hsp
    refine M_cap (fun hc => ?_)
    have hsp2 : ∀ (v : Option Value) (S' : SpS) (h' : AH), k S' lv (v.toList ++ r) h' → M w p l e R s m args below meth c nL n0 s0 Q (pc + 3) S' lv (v.toList ++ r) h' := fun v S' h' q => hk _ _ _ _ q
    rcases hY with ⟨hne, hY⟩ | ⟨he, hY⟩
    · exact m_callV X hd (Ct_w hCt) hY hl' hlink hA (hq2 hne) (cat4 r hr) (capO_of hcp hc hcap) ⟨_, hsp, hsp2⟩
    · exact m_callStr X hd (Ct_w hCt) hY hl' hlink hA (hq1 he).1 (hq1 he).2 (cat4 r hr) (capO_of hcp hc hcap) ⟨_, hsp, hsp2⟩
  | invokespecial idx =>
    have hd := itB_d hit rfl
    have hk := hk rfl
    rcases hlk with ⟨rfl, hlink⟩ | ⟨n, mc, ms, y, bytes, maxL, lev', rfl, hCt, hY, hl', hlink⟩
    · obtain ⟨a, r, rfl, hr, hq⟩ := pR1_e hs
      exact m_objInit X hd hlev hlink (cat4 r hr) (hk _ _ _ _ hq)
    · obtain ⟨As, r0, rfl, hA, hs1⟩ := popN_e _ _ _ _ hs
      obtain ⟨b, r, rfl, hq2, hr, hcp, hsp⟩ := pR1_e hs1
      rw [List.append_nil] at hsp
      refine M_cap (fun hc => ?_)
      exact m_callI X hd (Ct_w hCt) hY hl' hlink hA hq2 (cat4 r hr) (capO_of hcp hc hcap) ⟨_, hsp, fun v S' h' q => hk _ _ _ _ q⟩
  | invokestatic idx =>
    have hd := itB_d hit rfl
    have hk := hk rfl
    rcases hlk with ⟨n, mc, ms, y, bytes, maxL, ret, lev', rfl, hCt, hY, hl', hlink⟩ | ⟨rfl, hlink⟩ | ⟨rfl, hlink⟩ | ⟨hg, hlink⟩
    · obtain ⟨As, r, rfl, hA, hr, hcp, hsp⟩ := popN_e _ _ _ _ hs
      rw [List.append_nil] at hsp
      refine M_cap (fun hc => ?_)
      exact m_callS X hd (Ct_w hCt) hY hl' hlink hA (cat4 r hr) (capO_of hcp hc hcap) ⟨_, hsp, fun v S' h' q => hk _ _ _ _ q⟩
    · obtain ⟨x, y, r, rfl, hr, hq⟩ := pII_e hs
      exact m_min X hd hlev hlink (cat4 r hr) (hk _ _ _ _ hq)
    · obtain ⟨x, y, r, rfl, hr, hq⟩ := pII_e hs
      exact m_max X hd hlev hlink (cat4 r hr) (hk _ _ _ _ hq)
    · rcases hg with rfl | rfl
      · obtain ⟨a, sp, b, dp, n, r, rfl, h1, h2, ⟨b1, b2, b3, b4, b5⟩, hr, hq⟩ := pCP_e hs
        exact m_copyi X hd hlev hlink h1 h2 b1 b2 b3 b4 b5 (cat4 r hr) hz0 (hk _ _ _ _ hq)
      · obtain ⟨a, sp, b, dp, n, r, rfl, h1, h2, ⟨b1, b2, b3, b4, b5⟩, hr, hq⟩ := pCP_e hs
        exact m_copyl X hd hlev hlink h1 h2 b1 b2 b3 b4 b5 (cat4 r hr) hz0 (hk _ _ _ _ hq)
  | ireturn =>
    have hd := itB_d hit rfl
    have hk := hk rfl
    obtain ⟨x, r, rfl, h1⟩ := pI1_e hs
    obtain ⟨rfl, h2⟩ := eSt_e h1
    exact hret.1 _ _ _ _ _ hd h2
  | lreturn =>
    have hd := itB_d hit rfl
    have hk := hk rfl
    obtain ⟨x, r, rfl, h1⟩ := pL1_e hs
    obtain ⟨rfl, h2⟩ := eSt_e h1
    exact hret.2.1 _ _ _ _ _ hd h2
  | areturn =>
    have hd := itB_d hit rfl
    have hk := hk rfl
    obtain ⟨x, r, rfl, h1⟩ := pR1_e hs
    obtain ⟨rfl, h2⟩ := eSt_e h1
    exact hret.2.2.1 _ _ _ _ _ hd h2
  | return_ =>
    have hd := itB_d hit rfl
    have hk := hk rfl
    obtain ⟨rfl, h2⟩ := eSt_e hs
    exact hret.2.2.2 _ _ _ _ hd h2
  | _ => exact False.elim hs
theorem go_snd (X : CX w p R s m args c cc nL own lev) {J : Nat → SpS → List Value → List Value → AH → Prop} (hJM : ∀ t S lv st h, J t S lv st h → M w p l e R s m args below meth c nL n0 s0 Q t S lv st h) {Rt : Option Value → SpS → AH → Prop} {cap : Nat × Nat} {ini : Bool} (hlev : 1 ≤ lev) (hz0 : s.heap.size + kkC w = w.1 + n0) (hini : ini = true → meth.name = "<init>") (hcap : cap.1 + kkC w = n0 + R.cells ∧ cap.2 + kkS w = s0 + R.slots) (hret : RtOK w p l e R s m args below meth c cc nL n0 s0 Q Rt) :
    ∀ (L : List Item), okB cc L = true → LKs l own lev ini L → ∀ (pc : Nat), L.head?.map (fun x => x.1) = some pc → ∀ (S : SpS) (lv st : List Value) (h : AH), go J Rt cap L S lv st h → M w p l e R s m args below meth c nL n0 s0 Q pc S lv st h
  | [], _, _, pc, hp, _, _, _, _, hs => hs.elim
  | (pc0, i, g, Sp) :: r, hok, hlk, pc, hp, S, lv, st, h, hs => by
    have hp' : pc0 = pc := by simpa using hp
    subst hp'
    have hit : itB cc (pc0, i, g, Sp) = true := by
      simp only [okB, List.all_cons, Bool.and_eq_true] at hok
      exact hok.1.1
    refine stp_snd X hJM hlev hz0 hini hcap hit hlk.1 hret (fun hts S lv st h hq => ?_) hs
    have hr : okB cc r = true := by
      simp only [okB, List.all_cons, Bool.and_eq_true] at hok ⊢
      refine ⟨hok.1.2, ?_⟩
      cases r with
      | nil => rfl
      | cons b r =>
        have := hok.2
        simp only [chB, Bool.and_eq_true] at this
        exact this.2
    refine go_snd X hJM hlev hz0 hini hcap hret r hr hlk.2 _ ?_ S lv st h hq
    cases r with
    | nil => exact hq.elim
    | cons b r =>
      simp only [okB, chB, Bool.and_eq_true, Bool.or_eq_true, beq_iff_eq] at hok
      rcases hok.2.1 with q | q
      · have : isTs i = true := q
        rw [hts] at this
        cases this
      · have q' : pc0 + ilen i = b.1 := q
        simp [q']
theorem okB_drop {cc : ByteArray} : ∀ (k : Nat) (L : List Item), okB cc L = true → okB cc (L.drop k) = true
  | 0, L, h => h
  | k + 1, [], h => h
  | k + 1, x :: r, h => by
    refine okB_drop k r ?_
    simp only [okB, List.all_cons, Bool.and_eq_true] at h ⊢
    refine ⟨h.1.2, ?_⟩
    cases r with
    | nil => rfl
    | cons b r =>
      have := h.2
      simp only [chB, Bool.and_eq_true] at this
      exact this.2
theorem LKs_drop {ini : Bool} : ∀ (k : Nat) (L : List Item), LKs l own lev ini L → LKs l own lev ini (L.drop k)
  | 0, L, h => h
  | k + 1, [], h => h
  | k + 1, x :: r, h => LKs_drop k r h.2
/-- jumps ahead are followed; jumps to the heads of loops are not -/
def isNop (i : Instr) : Bool := match i with
  | .nop => true
  | _ => false
def atL (L : List Item) (t : Nat) : List Item := match L with
  | [] => []
  | x :: r => if x.1 = t ∧ isNop x.2.1 = false then x :: r else atL r t
def afw (L : List Item) (hd : List Nat) (t : Nat) : List Item := if t ∈ hd then [] else atL L t
def jmp (G : List Item → SpS → List Value → List Value → AH → Prop) (J : Nat → SpS → List Value → List Value → AH → Prop) (L : List Item) (t : Nat) (S : SpS) (lv st : List Value) (h : AH) : Prop := match L with
  | [] => J t S lv st h
  | x :: r => G (x :: r) S lv st h
def goF (n : Nat) (J : Nat → SpS → List Value → List Value → AH → Prop) (Rt : Option Value → SpS → AH → Prop) (cap : Nat × Nat) (A : Nat → List Item) (L : List Item) (S : SpS) (lv st : List Value) (h : AH) : Prop := match n with
  | 0 => go J Rt cap L S lv st h
  | n + 1 => go (fun t S lv st h => jmp (goF n J Rt cap A) J (A t) t S lv st h) Rt cap L S lv st h
theorem goF_s {n : Nat} {J : Nat → SpS → List Value → List Value → AH → Prop} {Rt : Option Value → SpS → AH → Prop} {cap : Nat × Nat} {A : Nat → List Item} {L : List Item} {S : SpS} {lv st : List Value} {h : AH} : goF (n + 1) J Rt cap A L S lv st h = go (fun t S lv st h => jmp (goF n J Rt cap A) J (A t) t S lv st h) Rt cap L S lv st h := rfl
theorem jmp_n {G : List Item → SpS → List Value → List Value → AH → Prop} {J : Nat → SpS → List Value → List Value → AH → Prop} {t : Nat} {S : SpS} {lv st : List Value} {h : AH} : jmp G J [] t S lv st h = J t S lv st h := rfl
theorem jmp_c {G : List Item → SpS → List Value → List Value → AH → Prop} {J : Nat → SpS → List Value → List Value → AH → Prop} {x : Item} {r : List Item} {t : Nat} {S : SpS} {lv st : List Value} {h : AH} : jmp G J (x :: r) t S lv st h = G (x :: r) S lv st h := rfl
theorem atL_drop : ∀ (L : List Item) (t : Nat), (∃ k, atL L t = L.drop k) ∧ (atL L t = [] ∨ (atL L t).head?.map (fun x => x.1) = some t)
  | [], t => ⟨⟨0, rfl⟩, Or.inl rfl⟩
  | x :: r, t => by
    obtain ⟨⟨k, h1⟩, h2⟩ := atL_drop r t
    unfold atL
    by_cases hx : x.1 = t ∧ isNop x.2.1 = false
    · rw [if_pos hx]
      exact ⟨⟨0, rfl⟩, Or.inr (by simp [hx.1])⟩
    · rw [if_neg hx]
      exact ⟨⟨k + 1, by simpa using h1⟩, h2⟩
theorem go_at (X : CX w p R s m args c cc nL own lev) {J : Nat → SpS → List Value → List Value → AH → Prop} (hJM : ∀ t S lv st h, J t S lv st h → M w p l e R s m args below meth c nL n0 s0 Q t S lv st h) {Rt : Option Value → SpS → AH → Prop} {cap : Nat × Nat} {ini : Bool} (hlev : 1 ≤ lev) (hz0 : s.heap.size + kkC w = w.1 + n0) (hini : ini = true → meth.name = "<init>") (hcap : cap.1 + kkC w = n0 + R.cells ∧ cap.2 + kkS w = s0 + R.slots) (hret : RtOK w p l e R s m args below meth c cc nL n0 s0 Q Rt)
    {L : List Item} (hok : okB cc L = true) (hlk : LKs l own lev ini L) (t : Nat) (S : SpS) (lv st : List Value) (h : AH) (hg : go J Rt cap (atL L t) S lv st h) : M w p l e R s m args below meth c nL n0 s0 Q t S lv st h := by
  obtain ⟨⟨k, h1⟩, h2⟩ := atL_drop L t
  rcases h2 with h2 | h2
  · rw [h2] at hg
    exact hg.elim
  · rw [h1] at hg h2
    exact go_snd X hJM hlev hz0 hini hcap hret _ (okB_drop k L hok) (LKs_drop k L hlk) t h2 S lv st h hg
theorem goF_snd (X : CX w p R s m args c cc nL own lev) {J : Nat → SpS → List Value → List Value → AH → Prop} (hJM : ∀ t S lv st h, J t S lv st h → M w p l e R s m args below meth c nL n0 s0 Q t S lv st h) {Rt : Option Value → SpS → AH → Prop} {cap : Nat × Nat} {ini : Bool} (hlev : 1 ≤ lev) (hz0 : s.heap.size + kkC w = w.1 + n0) (hini : ini = true → meth.name = "<init>") (hcap : cap.1 + kkC w = n0 + R.cells ∧ cap.2 + kkS w = s0 + R.slots) (hret : RtOK w p l e R s m args below meth c cc nL n0 s0 Q Rt)
    {L : List Item} (hok : okB cc L = true) (hlk : LKs l own lev ini L) (hd : List Nat) : ∀ (n : Nat) (t : Nat) (S : SpS) (lv st : List Value) (h : AH), goF n J Rt cap (afw L hd) (atL L t) S lv st h → M w p l e R s m args below meth c nL n0 s0 Q t S lv st h
  | 0, t, S, lv, st, h, hg => go_at X hJM hlev hz0 hini hcap hret hok hlk t S lv st h hg
  | n + 1, t, S, lv, st, h, hg => by
    refine go_at X (J := fun t S lv st h => jmp (goF n J Rt cap (afw L hd)) J (afw L hd t) t S lv st h) (fun t' S' lv' st' h' q => ?_) hlev hz0 hini hcap hret hok hlk t S lv st h hg
    have q : jmp (goF n J Rt cap (afw L hd)) J (afw L hd t') t' S' lv' st' h' := q
    have ih := goF_snd X hJM hlev hz0 hini hcap hret hok hlk hd n t' S' lv' st' h'
    by_cases ht : t' ∈ hd
    · have e : afw L hd t' = [] := if_pos ht
      rw [e] at q
      exact hJM _ _ _ _ _ q
    · have e : afw L hd t' = atL L t' := if_neg ht
      rw [e] at q
      cases hL : atL L t' with
      | nil =>
        rw [hL] at q
        exact hJM _ _ _ _ _ q
      | cons x r =>
        rw [hL] at q ih
        exact ih q
end SND
