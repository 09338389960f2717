/-- the tables' words that stay when a class is warmed -/
def gT : List Cond := lw_tbl.filter goodWord
theorem gT_of {u : Cond} (h : u ∈ lw_tbl) (hg : goodWord u = true) : u ∈ gT := List.mem_filter.mpr ⟨h, hg⟩
/-! ===== the abstract world: cells by number, in the order in which they are made; ints, longs, references by cell and place ===== -/
abbrev SpS : Type := Nat × Nat × (Nat → Nat × Nat) × (Nat → Nat → Nat)
abbrev AH : Type := (Nat → Nat → Int32) × (Nat → Nat → Int64)
def nC (S : SpS) : Nat := S.1
def sC (S : SpS) : Nat := S.2.1
def tC (S : SpS) (c : Nat) : Nat × Nat := S.2.2.1 c
def rC (S : SpS) (c k : Nat) : Nat := S.2.2.2 c k
def gI (h : AH) (c k : Nat) : Int32 := h.1 c k
def gJ (h : AH) (c k : Nat) : Int64 := h.2 c k
def pI (h : AH) (c k : Nat) (v : Int32) : AH := (fun c' k' => if c' = c ∧ k' = k then v else h.1 c' k', h.2)
def pJ (h : AH) (c k : Nat) (v : Int64) : AH := (h.1, fun c' k' => if c' = c ∧ k' = k then v else h.2 c' k')
def rowI (h : AH) (c : Nat) (f : Nat → Int32) : AH := (fun c' => if c' = c then f else h.1 c', h.2)
def rowJ (h : AH) (c : Nat) (f : Nat → Int64) : AH := (h.1, fun c' => if c' = c then f else h.2 c')
def zA (h : AH) (c : Nat) : AH := (fun c' k' => if c' = c then 0 else h.1 c' k', fun c' k' => if c' = c then 0 else h.2 c' k')
def nwS (S : SpS) (code len sl : Nat) : SpS := (S.1 + 1, S.2.1 + sl, fun c => if c = S.1 then (code, len) else S.2.2.1 c, fun c k => if c = S.1 then 0 else S.2.2.2 c k)
def pR (S : SpS) (c k r : Nat) : SpS := (S.1, S.2.1, S.2.2.1, fun c' k' => if c' = c ∧ k' = k then r else S.2.2.2 c' k')
/-- the world: where it begins, where the texts are, the classes' numbers and fields, the array classes -/
abbrev Wld : Type := Nat × (Nat → Nat) × va_G × (Nat → ClassId)
def ad (w : Wld) (n : Nat) : Nat := if n < 100000 then w.1 + n else w.2.1 (n - 100000)
def tv (w : Wld) (v : Value) : Value := match v with
  | .ref n => .ref (ad w n)
  | v => v
def rv (r : Nat) : Value := match r with
  | 0 => .null
  | r + 1 => .ref r
def ro (w : Wld) (r : Nat) : Option Nat := match r with
  | 0 => none
  | r + 1 => some (ad w r)
theorem tv_rv (w : Wld) (r : Nat) : tv w (rv r) = va_rf (ro w r) := by cases r <;> rfl
theorem tv_cat (w : Wld) (v : Value) : (tv w v).category = v.category := by cases v <;> rfl
def fI (ci k : Nat) : Bool := match ci with
  | 0 => decide (k < 5)
  | 1 => true
  | 3 => decide (k < 2)
  | 4 => !(k == 0) && !(k == 5)
  | 5 => k == 3
  | _ => false
def nF (ci : Nat) : Nat := match ci with
  | 0 => 7
  | 1 => 7
  | 2 => 2
  | 3 => 3
  | 4 => 6
  | 5 => 8
  | _ => 0
def fV (w : Wld) (S : SpS) (h : AH) (c ci k : Nat) : Value := if fI ci k = true then .int (gI h c k) else tv w (rv (rC S c k))
def ent (w : Wld) (S : SpS) (h : AH) (c : Nat) : va_E :=
  if (tC S c).1 = 10 then .inl (w.2.2.2 0, (tC S c).2, .inl (gI h c))
  else if (tC S c).1 = 11 then .inl (w.2.2.2 1, (tC S c).2, .inr (.inl (gJ h c)))
  else if (tC S c).1 = 12 then .inl (w.2.2.2 2, (tC S c).2, .inr (.inr (.inr (.inr (fun j => ro w (rC S c j))))))
  else if (tC S c).1 = 13 then .inl (w.2.2.2 3, (tC S c).2, .inr (.inr (.inr (.inr (fun j => ro w (rC S c j))))))
  else .inr ((tC S c).1, (List.range (nF (tC S c).1)).map (fV w S h c (tC S c).1))
def wsO (w : Wld) (S : SpS) (h : AH) : va_W := (List.range (nC S)).map (fun c => (w.1 + c, ent w S h c))
abbrev vwCl : List vw_C := [(RX0, TX0, 7), (RX1, TX1, 7), (RX2, TX2, 2), (RX3, TX3, 3), (RX4, TX4, 6), (RX5, TX5, 8)]
def Rl (w : Wld) (S : SpS) (h : AH) (H : Heap) : Prop := H.size = w.1 + nC S ∧ nC S ≤ 100000 ∧ (∀ c, (tC S c).1 ≠ 99 → c < nC S) ∧ va_P w.2.2.1 vwCl (wsO w S h) H
abbrev A0 (w : Wld) : Nat → Prop := fun q => w.2.1 16 ≤ q
/-- cells and slots that lie ahead of this world and count -/
def kkC (w : Wld) : Nat := w.2.1 17
def kkS (w : Wld) : Nat := w.2.1 18
theorem wsO_at {w : Wld} {S : SpS} {h : AH} {c : Nat} (hc : c < nC S) : (wsO w S h)[c]? = some (w.1 + c, ent w S h c) := by
  simp [wsO, List.getElem?_map, List.getElem?_range hc]
theorem wsO_D {w : Wld} (hA : w.2.1 16 ≤ w.1) (S : SpS) (h : AH) : va_D (A0 w) (wsO w S h) := by
  have key : ∀ (k : Nat) (q : Nat × va_E), (wsO w S h)[k]? = some q → q.1 = w.1 + k := by
    intro k q hk
    have hl : k < nC S := by
      have := (List.getElem?_eq_some_iff.mp hk).1
      simpa [wsO] using this
    rw [wsO_at hl] at hk
    cases hk
    rfl
  refine ⟨fun i j p q hi hj e => ?_, fun k q hk => ?_⟩
  · have a := key i p hi
    have b := key j q hj
    omega
  · have a := key k q hk
    show w.2.1 16 ≤ q.1
    omega
theorem wsO_set {w : Wld} {S : SpS} {h h' : AH} {S' : SpS} {c : Nat} {e : va_E} (hn : nC S' = nC S) (he : ent w S' h' c = e) (ho : ∀ c', c' ≠ c → ent w S' h' c' = ent w S h c') : (wsO w S h).set c (w.1 + c, e) = wsO w S' h' := by
  apply List.ext_getElem?
  intro k
  by_cases hk : k < nC S
  · rw [wsO_at (show k < nC S' by omega)]
    by_cases hkc : k = c
    · subst hkc
      rw [List.getElem?_set_self (by simpa [wsO] using hk), he]
    · rw [List.getElem?_set_ne (Ne.symm hkc), wsO_at hk, ho k hkc]
  · rw [List.getElem?_eq_none (by simp [wsO]; omega), List.getElem?_eq_none (by simp [wsO]; omega)]
theorem wsO_push {w : Wld} {S S' : SpS} {h h' : AH} {e : va_E} (hn : nC S' = nC S + 1) (he : ent w S' h' (nC S) = e) (ho : ∀ c', c' < nC S → ent w S' h' c' = ent w S h c') : wsO w S h ++ [(w.1 + nC S, e)] = wsO w S' h' := by
  unfold wsO
  rw [hn, List.range_succ, List.map_append, List.map_singleton, he]
  congr 1
  apply List.map_congr_left
  intro c hc
  rw [ho c (List.mem_range.mp hc)]
