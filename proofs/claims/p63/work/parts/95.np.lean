variable {nn : Nat}
/-! ===== what the statement gives of the law's start ===== -/
theorem cls_ins {c : Nat} {q : vw_C} (h : vwCl[c]? = some q) : Cond.instantiable q.1 q.2.2 ∈ gT := by
  match c, h with
  | 0, h => cases h; exact (gT_of (List.mem_of_getElem? (i := 48) (by decide +kernel)) rfl)
  | 1, h => cases h; exact (gT_of (List.mem_of_getElem? (i := 55) (by decide +kernel)) rfl)
  | 2, h => cases h; exact (gT_of (List.mem_of_getElem? (i := 160) (by decide +kernel)) rfl)
  | 3, h => cases h; exact (gT_of (List.mem_of_getElem? (i := 172) (by decide +kernel)) rfl)
  | 4, h => cases h; exact (gT_of (List.mem_of_getElem? (i := 131) (by decide +kernel)) rfl)
  | 5, h => cases h; exact (gT_of (List.mem_of_getElem? (i := 40) (by decide +kernel)) rfl)
  | c + 6, h => simp at h
theorem cls_known {s : State} {args : Array Value} (hts : ∀ u ∈ gT, u.before args s = true) : ∃ D : va_G, ∀ (c : Nat) (q : vw_C), vwCl[c]? = some q → u_Kn s q.1 q.2.1 q.2.2 (D.1 c) (D.2 c) := by
  have h0 : ∀ c : Nat, ∃ d : ClassId × (Nat → Nat), ∀ q : vw_C, vwCl[c]? = some q → u_Kn s q.1 q.2.1 q.2.2 d.1 d.2 := by
    intro c
    cases h : vwCl[c]? with
    | none => exact ⟨(0, fun _ => 0), fun q hq => by cases hq⟩
    | some q =>
      obtain ⟨cC, iS, h2⟩ := u_known hts (cls_in h) (hts _ (cls_ins h))
      exact ⟨(cC, iS), fun q' hq => by cases hq; exact h2⟩
  obtain ⟨f, hf⟩ := Classical.axiomOfChoice h0
  exact ⟨(fun c => (f c).1, fun c => (f c).2), fun c q hq => hf c q hq⟩
theorem arr_known {s : State} {args : Array Value} (hts : ∀ w ∈ lw_tbl, w.before args s = true) : ∃ f : Nat → ClassId, ∀ (k : Nat) (q : ClassId × FieldType), ([(f 0, .int), (f 1, .long), (f 2, .object RX1), (f 3, .object RX3)] : List (ClassId × FieldType))[k]? = some q → ArrOfT s q.1 q.2 ∧ va_RA s q.1 q.2 := by
  obtain ⟨c0, k0, p0, a1, a2, a3⟩ := Cond.arrayClass_spec (hts (.arrayClass .int) (List.mem_of_getElem? (i := 94) (by decide +kernel)))
  obtain ⟨c1, k1, p1, d1, d2, d3⟩ := Cond.arrayClass_spec (hts (.arrayClass .long) (List.mem_of_getElem? (i := 190) (by decide +kernel)))
  obtain ⟨p2, c2, k2, b1, b2, b3, b4, b5⟩ := Cond.arrayOver_spec (hts (.arrayOver (.object RX1)) (List.mem_of_getElem? (i := 54) (by decide +kernel)))
  obtain ⟨p3, c3, k3, e1, e2, e3, e4, e5⟩ := Cond.arrayOver_spec (hts (.arrayOver (.object RX3)) (List.mem_of_getElem? (i := 158) (by decide +kernel)))
  refine ⟨fun i => if i = 0 then c0 else if i = 1 then c1 else if i = 2 then c2 else c3, fun k q hk => ?_⟩
  match k, hk with
  | 0, hk => cases hk; exact ⟨fun N z => ⟨(fun k h => by cases h), k0, a2, p0, a3⟩, a1⟩
  | 1, hk => cases hk; exact ⟨fun N z => ⟨(fun k h => by cases h), k1, d2, p1, d3⟩, d1⟩
  | 2, hk => cases hk; exact ⟨fun N z => ⟨(fun k h => by cases h), k2, b3, p2, b4⟩, ⟨k2, p2, b3, b4, b1, b5⟩⟩
  | 3, hk => cases hk; exact ⟨fun N z => ⟨(fun k h => by cases h), k3, e3, p3, e4⟩, ⟨k3, p3, e3, e4, e1, e5⟩⟩
  | k + 4, hk => simp at hk
def tmJ (i : Nat) : Term := Term.string "CorkSaysWhen$Tape" ([92, 94, 96, 97, 98, 99, 100].getD i 0)
theorem st_ex : ∀ i, i < 7 → Cond.exactly (tmJ i) "java/lang/String" ∈ flatC (Jvm.Cond.and given_1 narrow_1) := by decide +kernel
theorem st_co : ∀ i, i < 7 → Cond.eq (.field (tmJ i) "java/lang/String" "coder" "B") (.int 0) ∈ flatC (Jvm.Cond.and given_1 narrow_1) := by decide +kernel
theorem st_ar : ∀ i, i < 7 → Cond.arrayOf (.field (tmJ i) "java/lang/String" "value" "[B") .byte ∈ flatC (Jvm.Cond.and given_1 narrow_1) := by decide +kernel
theorem st_le : ∀ i, i < 7 → Cond.eq (.length (.field (tmJ i) "java/lang/String" "value" "[B")) (.int (Int32.ofNat (lenJ.getD i 0))) ∈ flatC (Jvm.Cond.and given_1 narrow_1) := by decide +kernel
theorem st_el : ∀ i, i < 7 → ∀ j, j < lenJ.getD i 0 → Cond.eq (.elem (.field (tmJ i) "java/lang/String" "value" "[B") (.int (Int32.ofNat j))) (.int ((bytJ.getD i []).getD j 0)) ∈ flatC (Jvm.Cond.and given_1 narrow_1) := by decide +kernel
theorem st_ne : ∀ i, i < 7 → ∀ j, j < 7 → i ≠ j → (Cond.not (Cond.eq (tmJ i) (tmJ j)) ∈ flatC (Jvm.Cond.and given_1 narrow_1) ∨ Cond.not (Cond.eq (tmJ j) (tmJ i)) ∈ flatC (Jvm.Cond.and given_1 narrow_1)) := by decide +kernel
theorem st_cs : Cond.eq (.static "java/lang/String" "COMPACT_STRINGS" "Z") (.int 1) ∈ flatC (Jvm.Cond.and given_1 narrow_1) := by decide +kernel
theorem st_fm : Cond.isRef (.static "jdk/internal/util/Preconditions" "SIOOBE_FORMATTER" "Ljava/util/function/BiFunction;") ∈ flatC (Jvm.Cond.and given_1 narrow_1) := by decide +kernel
theorem ev_same {args : Array Value} {s : State} {t u : Term} {a : Nat} (h : (Cond.eq t u).before args s = true) (ht : t.eval args s none [] s = some (.ref a)) : u.eval args s none [] s = some (.ref a) := by
  cases hv : u.eval args s none [] s with
  | none => simp [Cond.before, Cond.holds, Cond.value, ht, hv] at h
  | some v =>
    simp only [Cond.before, Cond.holds, Cond.value, ht, hv] at h
    cases v <;> simp_all
theorem str_known {s : State} {args : Array Value} (hgv : (Jvm.Cond.and given_1 narrow_1).before args s = true) : ∃ adK adV : Nat → Nat, vk_S 7 lenJ bytJ adK adV (fun q => s.heap.size ≤ q) s s.heap ∧ ∀ i : Nat, i < 7 → (tmJ i).eval args s none [] s = some (.ref (adK i)) := by
  have hs := flat_of_before _ hgv
  refine vk_Sof (tm := tmJ) (by decide) (fun i hi => hs _ (st_ex i hi)) (fun i hi => hs _ (st_co i hi)) (fun i hi => hs _ (st_ar i hi)) (fun i hi => hs _ (st_le i hi)) (fun i hi j hj => hs _ (st_el i hi j hj)) (fun i j hi hj hne => ?_) (fun a ha => Nat.not_le.mpr ha)
  rcases st_ne i hi j hj hne with q | q
  · exact Or.inl (hs _ q)
  · exact Or.inr (hs _ q)
theorem kn_start {s : State} {args : Array Value} {L : Nat} {xs : Nat → Int32} (k b : Nat) (hL : L ≤ 260) (hX : va_X b L xs s s.heap) (hb : b < s.heap.size) (hts : ∀ w ∈ lw_tbl, w.before args s = true) (hgv : (Jvm.Cond.and given_1 narrow_1).before args s = true) : ∃ w : Wld, w.1 = s.heap.size + 64 * k ∧ w.2.1 15 = b ∧ w.2.1 16 = s.heap.size ∧ w.2.1 17 = 64 * k ∧ w.2.1 18 = 928 * k ∧ Kn w s := by
  have hs := flat_of_before _ hgv
  have hg : ∀ u ∈ gT, u.before args s = true := fun u hu => hts u (List.mem_filter.mp hu).1
  obtain ⟨D, hD⟩ := cls_known hg
  obtain ⟨f, hf⟩ := arr_known hts
  obtain ⟨adK, adV, hK, hE⟩ := str_known hgv
  have hA : ∀ a : Nat, a < s.heap.size → ¬ (fun q : Nat => s.heap.size ≤ q) a := fun a ha => Nat.not_le.mpr ha
  obtain ⟨v, hv, hr⟩ := Cond.isRef_spec (hs _ st_fm)
  have hcs := va_Zof (A := fun q : Nat => s.heap.size ≤ q) (hts (.laysStatic "java/lang/String" "COMPACT_STRINGS" "Z") (List.mem_of_getElem? (i := 358) (by decide +kernel))) (hts (.initialized "java/lang/String") (List.mem_of_getElem? (i := 35) (by decide +kernel))) (va_eqi (hs _ st_cs)) hA
  have hfm := va_Zof (A := fun q : Nat => s.heap.size ≤ q) (hts (.laysStatic "jdk/internal/util/Preconditions" "SIOOBE_FORMATTER" "Ljava/util/function/BiFunction;") (List.mem_of_getElem? (i := 374) (by decide +kernel))) (hts (.initialized "jdk/internal/util/Preconditions") (List.mem_of_getElem? (i := 37) (by decide +kernel))) hv hA
  have h14 : ∃ fm : Nat, v = .null ∨ v = .ref fm := by
    cases v with
    | null => exact ⟨0, Or.inl rfl⟩
    | ref a => exact ⟨a, Or.inr rfl⟩
    | _ => simp [Value.isRef] at hr
  obtain ⟨fm, h14⟩ := h14
  let adr : Nat → Nat := fun i => if i < 7 then adK i else if i < 14 then adV (i - 7) else if i = 14 then fm else if i = 15 then b else if i = 16 then s.heap.size else if i = 17 then 64 * k else 928 * k
  have e1 : ∀ i, i < 7 → adr i = adK i := fun i hi => if_pos hi
  have e2 : ∀ i, i < 7 → adr (7 + i) = adV i := fun i hi => by
    show (if 7 + i < 7 then adK (7 + i) else if 7 + i < 14 then adV (7 + i - 7) else if 7 + i = 14 then fm else if 7 + i = 15 then b else if 7 + i = 16 then s.heap.size else if 7 + i = 17 then 64 * k else 928 * k) = adV i
    rw [if_neg (by omega), if_pos (by omega), Nat.add_sub_cancel_left]
  have a15 : adr 15 = b := rfl
  have a16 : adr 16 = s.heap.size := rfl
  refine ⟨(s.heap.size + 64 * k, adr, D, f), rfl, rfl, rfl, rfl, rfl, ⟨hD, hf⟩, ⟨⟨va_AO.of (hts (.arrayOver (.object RX1)) (List.mem_of_getElem? (i := 54) (by decide +kernel))), va_AO.of (hts (.arrayOver (.object RX3)) (List.mem_of_getElem? (i := 158) (by decide +kernel)))⟩, ?_, ?_, hcs, ?_⟩, Nat.le_add_right _ _, hb, L, xs, hL, hX⟩
  · refine ⟨fun i hi => ?_, fun i j hi hj q => ?_⟩
    · have z := hK.1 i hi
      show va_O "java/lang/String" (adr i) _ s s.heap ∧ va_OF "java/lang/String" "coder" "B" (.int 0) (adr i) _ s s.heap ∧ va_OF "java/lang/String" "value" "[B" (.ref (adr (7 + i))) (adr i) _ s s.heap ∧ va_T .byte (adr (7 + i)) (lenJ.getD i 0) (fun j => .int ((bytJ.getD i []).getD j 0)) _ s s.heap
      rw [e1 i hi, e2 i hi]
      exact z
    · have q : adr i = adr j := q
      rw [e1 i hi, e1 j hj] at q
      exact hK.2 i j hi hj q
  · intro q hq
    simp only [strT, List.mem_cons, List.not_mem_nil, or_false] at hq
    rcases hq with rfl | rfl | rfl | rfl | rfl | rfl | rfl
    · exact vk_R.of (hts (.stringRef "CorkSaysWhen$Tape" 92 "heir") (List.mem_of_getElem? (i := 338) (by decide +kernel))) (hE 0 (by omega))
    · exact vk_R.of (hts (.stringRef "CorkSaysWhen$Tape" 94 "child") (List.mem_of_getElem? (i := 339) (by decide +kernel))) (hE 1 (by omega))
    · exact vk_R.of (hts (.stringRef "CorkSaysWhen$Tape" 96 "has") (List.mem_of_getElem? (i := 340) (by decide +kernel))) (hE 2 (by omega))
    · exact vk_R.of (hts (.stringRef "CorkSaysWhen$Tape" 97 "store") (List.mem_of_getElem? (i := 341) (by decide +kernel))) (hE 3 (by omega))
    · exact vk_R.of (hts (.stringRef "CorkSaysWhen$Tape" 98 "year") (List.mem_of_getElem? (i := 342) (by decide +kernel))) (hE 4 (by omega))
    · exact vk_R.of (hts (.stringRef "CorkSaysWhen$Tape" 99 "rule") (List.mem_of_getElem? (i := 343) (by decide +kernel))) (hE 5 (by omega))
    · exact vk_R.of (hts (.stringRef "CorkSaysWhen$Tape" 100 "joy") (List.mem_of_getElem? (i := 344) (by decide +kernel))) (hE 6 (by omega))
  · rcases h14 with rfl | rfl
    · exact Or.inl hfm
    · refine Or.inr ?_
      show va_Z "jdk/internal/util/Preconditions" "SIOOBE_FORMATTER" "Ljava/util/function/BiFunction;" (.ref (adr 14)) _ s s.heap
      rw [show adr 14 = fm from rfl]
      exact hfm
