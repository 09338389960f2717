/-! ===== the model's side of the state ===== -/
def estM (h : AH) : ES := (fun k => if k < 5 then (if k < 3 then gI h 65 k else if k = 3 then gI h 64 10 else gI h 64 2) else 0, fun t => if t < 8 then gI h 66 t else 0, fun i k => if i < (gI h 64 2).toNatClampNeg ∧ k < 7 then gI h (67 + k) i else 0)
theorem em_s {h : AH} {k : Nat} (hk : k < 3) : eS (estM h) k = gI h 65 k := by
  show (if k < 5 then (if k < 3 then gI h 65 k else _) else 0) = _
  rw [if_pos (by omega), if_pos hk]
theorem em_3 (h : AH) : eS (estM h) 3 = gI h 64 10 := rfl
theorem em_4 (h : AH) : eS (estM h) 4 = gI h 64 2 := rfl
theorem em_j {h : AH} {t : Nat} (ht : t < 8) : eJ (estM h) t = gI h 66 t := if_pos ht
theorem em_n (h : AH) : cnt (estM h) = (gI h 64 2).toNatClampNeg := rfl
theorem em_f {h : AH} {i k : Nat} (hi : i < cnt (estM h)) (hk : k < 7) : eF (estM h) i k = gI h (67 + k) i := if_pos ⟨hi, hk⟩
theorem em_c {h : AH} (ho : okE (estM h)) : gI h 64 2 = nI (cnt (estM h)) := ho.1
/-- where the model keeps its HEIRS and what goes with them -/
def isM (c k : Nat) : Prop := (65 ≤ c ∧ c ≤ 73) ∨ (c = 64 ∧ (k = 2 ∨ k = 10))
theorem em_fr {h h' : AH} (h1 : ∀ c k, isM c k → gI h' c k = gI h c k) : estM h' = estM h := by
  refine est_ext (fun k => ?_) (fun t => ?_) (fun i k => ?_)
  · show (if k < 5 then (if k < 3 then gI h' 65 k else if k = 3 then gI h' 64 10 else gI h' 64 2) else 0) = (if k < 5 then (if k < 3 then gI h 65 k else if k = 3 then gI h 64 10 else gI h 64 2) else 0)
    rw [h1 65 k (Or.inl (by omega)), h1 64 10 (Or.inr (by omega)), h1 64 2 (Or.inr (by omega))]
  · show (if t < 8 then gI h' 66 t else 0) = if t < 8 then gI h 66 t else 0
    rw [h1 66 t (Or.inl (by omega))]
  · show (if i < (gI h' 64 2).toNatClampNeg ∧ k < 7 then gI h' (67 + k) i else 0) = if i < (gI h 64 2).toNatClampNeg ∧ k < 7 then gI h (67 + k) i else 0
    rw [h1 64 2 (Or.inr (by omega))]
    by_cases q : i < (gI h 64 2).toNatClampNeg ∧ k < 7
    · rw [if_pos q, if_pos q, h1 (67 + k) i (Or.inl (by omega))]
    · rw [if_neg q, if_neg q]
theorem gI_no {h : AH} {c k : Nat} {v : Int32} {c' k' : Nat} (q : ¬ (c' = c ∧ k' = k)) : gI (pI h c k v) c' k' = gI h c' k' := if_neg q
theorem gI_yes {h : AH} {c k : Nat} {v : Int32} : gI (pI h c k v) c k = v := if_pos ⟨rfl, rfl⟩
theorem em_x {h' : AH} {E : ES} (h0 : ∀ k, k < 3 → gI h' 65 k = eS E k) (h3 : gI h' 64 10 = eS E 3) (h4 : gI h' 64 2 = eS E 4) (hj : ∀ t, t < 8 → gI h' 66 t = eJ E t) (hf : ∀ i k, i < cnt E → k < 7 → gI h' (67 + k) i = eF E i k) (e0 : ∀ k, 5 ≤ k → eS E k = 0) (ej : ∀ t, 8 ≤ t → eJ E t = 0) (ef : ∀ i k, ¬ (i < cnt E ∧ k < 7) → eF E i k = 0) : estM h' = E := by
  refine est_ext (fun k => ?_) (fun t => ?_) (fun i k => ?_)
  · show (if k < 5 then (if k < 3 then gI h' 65 k else if k = 3 then gI h' 64 10 else gI h' 64 2) else 0) = _
    by_cases q : k < 5
    · rw [if_pos q]
      by_cases q2 : k < 3
      · rw [if_pos q2]; exact h0 k q2
      · rw [if_neg q2]
        by_cases q3 : k = 3
        · rw [if_pos q3, q3]; exact h3
        · rw [if_neg q3, show k = 4 by omega]; exact h4
    · rw [if_neg q, e0 k (by omega)]
  · show (if t < 8 then gI h' 66 t else 0) = _
    by_cases q : t < 8
    · rw [if_pos q]; exact hj t q
    · rw [if_neg q, ej t (by omega)]
  · show (if i < (gI h' 64 2).toNatClampNeg ∧ k < 7 then gI h' (67 + k) i else 0) = _
    rw [h4]
    show (if i < cnt E ∧ k < 7 then gI h' (67 + k) i else 0) = _
    by_cases q : i < cnt E ∧ k < 7
    · rw [if_pos q]; exact hf i k q.1 q.2
    · rw [if_neg q, ef i k q]
theorem em_e0 {h : AH} {k : Nat} (hk : 5 ≤ k) : eS (estM h) k = 0 := if_neg (by omega)
theorem em_ej {h : AH} {t : Nat} (ht : 8 ≤ t) : eJ (estM h) t = 0 := if_neg (by omega)
theorem em_ef {h : AH} {i k : Nat} (q : ¬ (i < cnt (estM h) ∧ k < 7)) : eF (estM h) i k = 0 := if_neg q
theorem em_pS {h : AH} {k : Nat} {v : Int32} (hk : k < 3) : estM (pI h 65 k v) = sS (estM h) k v := by
  have hc : cnt (sS (estM h) k v) = cnt (estM h) := cnt_sS _ _ _ (by omega)
  refine em_x (fun k' hk' => ?_) ?_ ?_ (fun t ht => ?_) (fun i k' hi hk' => ?_) (fun k' hk' => ?_) (fun t ht => em_ej ht) (fun i k' hq => em_ef (by rw [← hc]; exact hq))
  · rw [eS_sS]
    by_cases e : k' = k
    · rw [if_pos e, e, gI_yes]
    · rw [if_neg e, gI_no (by omega)]; exact (em_s hk').symm
  · rw [eS_sS, if_neg (by omega), gI_no (by omega)]; rfl
  · rw [eS_sS, if_neg (by omega), gI_no (by omega)]; rfl
  · rw [gI_no (by omega)]; exact (em_j ht).symm
  · rw [gI_no (by omega)]; exact (em_f (by rw [← hc]; exact hi) hk').symm
  · rw [eS_sS, if_neg (by omega)]; exact em_e0 hk'
theorem em_p3 (h : AH) (v : Int32) : estM (pI h 64 10 v) = sS (estM h) 3 v := by
  have hc : cnt (sS (estM h) 3 v) = cnt (estM h) := cnt_sS _ _ _ (by omega)
  refine em_x (fun k' hk' => ?_) ?_ ?_ (fun t ht => ?_) (fun i k' hi hk' => ?_) (fun k' hk' => ?_) (fun t ht => em_ej ht) (fun i k' hq => em_ef (by rw [← hc]; exact hq))
  · rw [eS_sS, if_neg (by omega), gI_no (by omega)]; exact (em_s hk').symm
  · rw [eS_sS, if_pos rfl, gI_yes]
  · rw [eS_sS, if_neg (by omega), gI_no (by omega)]; rfl
  · rw [gI_no (by omega)]; exact (em_j ht).symm
  · rw [gI_no (by omega)]; exact (em_f (by rw [← hc]; exact hi) hk').symm
  · rw [eS_sS, if_neg (by omega)]; exact em_e0 hk'
theorem em_pJ {h : AH} {t : Nat} {v : Int32} (ht : t < 8) : estM (pI h 66 t v) = sJ (estM h) t v := by
  refine em_x (fun k' hk' => ?_) ?_ ?_ (fun t' ht' => ?_) (fun i k' hi hk' => ?_) (fun k' hk' => ?_) (fun t' ht' => ?_) (fun i k' hq => em_ef hq)
  · rw [eS_sJ, gI_no (by omega)]; exact (em_s hk').symm
  · rw [eS_sJ, gI_no (by omega)]; rfl
  · rw [eS_sJ, gI_no (by omega)]; rfl
  · rw [eJ_sJ]
    by_cases e : t' = t
    · rw [if_pos e, e, gI_yes]
    · rw [if_neg e, gI_no (by omega)]; exact (em_j ht').symm
  · rw [gI_no (by omega)]; exact (em_f hi hk').symm
  · exact em_e0 hk'
  · rw [eJ_sJ, if_neg (by omega)]; exact em_ej ht'
theorem em_pF {h : AH} {c i k : Nat} {v : Int32} (hc : c = 67 + k) (hi : i < cnt (estM h)) (hk : k < 7) : estM (pI h c i v) = sF (estM h) i k v := by
  subst hc
  refine em_x (fun k' hk' => ?_) ?_ ?_ (fun t' ht' => ?_) (fun i' k' hi' hk' => ?_) (fun k' hk' => ?_) (fun t' ht' => em_ej ht') (fun i' k' hq => ?_)
  · rw [eS_sF, gI_no (by omega)]; exact (em_s hk').symm
  · rw [eS_sF, gI_no (by omega)]; rfl
  · rw [eS_sF, gI_no (by omega)]; rfl
  · rw [gI_no (by omega)]; exact (em_j ht').symm
  · rw [eF_sF]
    by_cases e : i' = i ∧ k' = k
    · rw [if_pos e, e.1, e.2, gI_yes]
    · rw [if_neg e, gI_no (by omega)]; exact (em_f hi' hk').symm
  · exact em_e0 hk'
  · rw [eF_sF, if_neg (by rintro ⟨rfl, rfl⟩; exact hq ⟨hi, hk⟩)]
    exact em_ef hq
/-- nothing but the HEIRS and what goes with them has changed -/
def frM (h h' : AH) : Prop := (∀ c k, ¬ isM c k → gI h' c k = gI h c k) ∧ ∀ c k, gJ h' c k = gJ h c k
theorem frM_rf (h : AH) : frM h h := ⟨fun _ _ _ => rfl, fun _ _ => rfl⟩
theorem frM_tr {h h' h'' : AH} (p1 : frM h h') (p2 : frM h' h'') : frM h h'' := ⟨fun c k hc => (p2.1 c k hc).trans (p1.1 c k hc), fun c k => (p2.2 c k).trans (p1.2 c k)⟩
theorem frM_p {h h' : AH} (p : frM h h') {c k : Nat} {v : Int32} (hc : isM c k) : frM h (pI h' c k v) := ⟨fun c' k' hc' => by
  rw [gI_pI, if_neg (by rintro ⟨rfl, rfl⟩; exact hc' hc)]
  exact p.1 c' k' hc', p.2⟩
theorem frM_c {h h' : AH} (p : frM h h') {c k : Nat} {v : Int32} (hc : 65 ≤ c ∧ c ≤ 73) : frM h (pI h' c k v) := frM_p p (Or.inl hc)
/-- nor the arrays that the model keeps beside, nor where it reads -/
def isQ (c k : Nat) : Prop := (65 ≤ c ∧ c ≤ 73) ∨ (80 ≤ c ∧ c ≤ 82) ∨ (c = 64 ∧ (k = 2 ∨ k = 10 ∨ (13 ≤ k ∧ k ≤ 16)))
def frQ (h h' : AH) : Prop := (∀ c k, ¬ isQ c k → gI h' c k = gI h c k) ∧ ∀ c k, gJ h' c k = gJ h c k
theorem frQ_rf (h : AH) : frQ h h := ⟨fun _ _ _ => rfl, fun _ _ => rfl⟩
theorem frQ_tr {h h' h'' : AH} (p1 : frQ h h') (p2 : frQ h' h'') : frQ h h'' := ⟨fun c k hc => (p2.1 c k hc).trans (p1.1 c k hc), fun c k => (p2.2 c k).trans (p1.2 c k)⟩
theorem frQ_M {h h' : AH} (p : frM h h') : frQ h h' := ⟨fun c k hc => p.1 c k (fun z => hc (by unfold isM at z; unfold isQ; omega)), p.2⟩
theorem frQ_p {h h' : AH} (p : frQ h h') {c k : Nat} {v : Int32} (hc : isQ c k) : frQ h (pI h' c k v) := ⟨fun c' k' hc' => by
  rw [gI_pI, if_neg (by rintro ⟨rfl, rfl⟩; exact hc' hc)]
  exact p.1 c' k' hc', p.2⟩
/-- the view of an array that the model keeps its HEIRS in -/
def estA (h : AH) (c : Nat) : ES := (fun k => if k < 5 then (if k < 3 then gI h c (78 + k) else if k = 3 then gI h c 82 else gI h c 81) else 0, fun t => if t < 8 then gI h c (70 + t) else 0, fun i k => if i < (gI h c 81).toNatClampNeg ∧ k < 7 then gI h c (10 * k + i) else 0)
theorem ea_fr {h h' : AH} {c : Nat} (h1 : ∀ k, gI h' c k = gI h c k) : estA h' c = estA h c := by
  unfold estA
  simp only [h1]
/-- cells of the class: as they were -/
def frY (h h' : AH) : Prop := (∀ c k, c < 64 → gI h' c k = gI h c k) ∧ ∀ c k, c < 64 → gJ h' c k = gJ h c k
theorem frY_rf (h : AH) : frY h h := ⟨fun _ _ _ => rfl, fun _ _ _ => rfl⟩
theorem frY_tr {h h' h'' : AH} (p1 : frY h h') (p2 : frY h' h'') : frY h h'' := ⟨fun c k hc => (p2.1 c k hc).trans (p1.1 c k hc), fun c k hc => (p2.2 c k hc).trans (p1.2 c k hc)⟩
theorem frY_p {h h' : AH} (p : frY h h') {c k : Nat} {v : Int32} (hc : 64 ≤ c) : frY h (pI h' c k v) := ⟨fun c' k' hc' => by rw [gI_pI, if_neg (by omega)]; exact p.1 c' k' hc', p.2⟩
theorem frY_J {h h' : AH} (p : frY h h') {c k : Nat} {v : Int64} (hc : 64 ≤ c) : frY h (pJ h' c k v) := ⟨p.1, fun c' k' hc' => by rw [gJ_pJ, if_neg (by omega)]; exact p.2 c' k' hc'⟩
theorem frY_Q {h h' : AH} (p : frQ h h') : frY h h' := ⟨fun c k hc => p.1 c k (by unfold isQ; omega), fun c k _ => p.2 c k⟩
def mK (h : AH) (G : GV) : Prop := gI h 64 21 = vK G ∧ (vK G = 1 → estA h 79 = vKE G)
def mT (h : AH) (G : GV) : Prop := gI h 64 11 = vS G ∧ ∀ i, i < (vS G).toNatClampNeg → gI h 74 i = vB G i
def mH (h : AH) (G : GV) (s : Nat) : Prop := gI h 75 s = vH G s ∧ (inI (vH G s) 4 → gI h 76 s = vZ G s ∧ ∀ j, j < 40 → gJ h 77 (40 * s + j) = vV G s j)
def simM (h : AH) (G : GV) : Prop := estM h = vE G ∧ mK h G ∧ mT h G ∧ (∀ s, s < 8 → mH h G s) ∧ ∀ k, k < 5 → gI h 78 (k + 2) = vF G k
def okM (G : GV) : Prop := ∃ T, T ≤ 900000000 ∧ inv T G
theorem okM_G {G : GV} (h : okM G) : okG G := by obtain ⟨T, h1, h2⟩ := h; exact ⟨T, by omega, h2⟩
/-- what a call of the model asks -/
def XM (h : AH) (f : GV → Int32 × GV) (K : Option Value → AH → Prop) : Prop := ∃ G, simM h G ∧ okM G ∧ ∀ h', simM h' (f G).2 → frY h h' → K (some (.int (f G).1)) h'
theorem simM_E {h h' : AH} {G : GV} {E : ES} (hG : simM h G) (hE : estM h' = E) (p : frQ h h') : simM h' (uE G E) := by
  obtain ⟨q1, q2, q3, q4, q5⟩ := hG
  have f1 : ∀ c k, 74 ≤ c ∧ c ≤ 79 → gI h' c k = gI h c k := fun c k hc => p.1 c k (by unfold isQ; omega)
  have f2 : ∀ k, k = 11 ∨ k = 21 → gI h' 64 k = gI h 64 k := fun k hk => p.1 64 k (by unfold isQ; omega)
  refine ⟨hE, ⟨(f2 21 (by omega)).trans q2.1, fun z => ?_⟩, ⟨(f2 11 (by omega)).trans q3.1, fun i hi => ?_⟩, fun s hs => ⟨?_, fun z => ⟨?_, fun j hj => ?_⟩⟩, fun k hk => ?_⟩
  · show estA h' 79 = vKE G
    rw [ea_fr (fun k => f1 79 k (by omega))]; exact q2.2 z
  · rw [f1 _ _ (by omega)]; exact q3.2 i hi
  · rw [f1 _ _ (by omega)]; exact (q4 s hs).1
  · rw [f1 _ _ (by omega)]; exact ((q4 s hs).2 z).1
  · rw [p.2]; exact ((q4 s hs).2 z).2 j hj
  · rw [f1 _ _ (by omega)]; exact q5 k hk
theorem simM_Q {h h' : AH} {G : GV} (hG : simM h G) (hE : estM h' = vE G) (p : frQ h h') : simM h' G := simM_E (E := vE G) hG hE p
def refM (h : AH) (c : Int32) : AH := pI h 78 (refP c + 2) (gI h 78 (refP c + 2) + 1)
theorem frY_ref (h : AH) (c : Int32) : frY h (refM h c) := frY_p (frY_rf h) (by omega)
theorem simM_ref {h : AH} {G : GV} {c : Int32} (hI : okM G) (hG : simM h G) (hc : isCode c) : simM (refM h c) (gR G c) := by
  obtain ⟨q1, q2, q3, q4, q5⟩ := hG
  have f1 : ∀ c' k, c' ≠ 78 → gI (refM h c) c' k = gI h c' k := fun c' k hc => by unfold refM; rw [gI_pI, if_neg (fun z => hc z.1)]
  refine ⟨?_, ⟨(f1 64 21 (by omega)).trans q2.1, fun z => ?_⟩, ⟨(f1 64 11 (by omega)).trans q3.1, fun i hi => ?_⟩, fun s hs => ⟨?_, fun z => ⟨?_, fun j hj => ?_⟩⟩, fun k hk => ?_⟩
  · exact (em_fr (fun c' k hc => f1 c' k (by unfold isM at hc; omega))).trans q1
  · show estA _ 79 = vKE G
    rw [ea_fr (fun k => f1 79 k (by omega))]; exact q2.2 z
  · rw [f1 _ _ (by omega)]; exact q3.2 i hi
  · rw [f1 _ _ (by omega)]; exact (q4 s hs).1
  · rw [f1 _ _ (by omega)]; exact ((q4 s hs).2 z).1
  · exact ((q4 s hs).2 z).2 j hj
  · show gI (pI h 78 (refP c + 2) (gI h 78 (refP c + 2) + 1)) 78 (k + 2) = if k = refP c then vF G k + 1 else vF G k
    rw [gI_pI, ← q5 k hk]
    by_cases q : k = refP c
    · rw [q, if_pos ⟨rfl, rfl⟩, if_pos rfl]
    · rw [if_neg (fun z => q (by omega)), if_neg q]
/-! small calls -/
def P_X6_no : Sp0T := fun as h K => match as with
  | [.ref x, .int c] => x = 64 ∧ isCode c ∧ K (some (.int c)) (refM h c)
  | _ => False
def S_X6_no : SpT := lift P_X6_no
def L_X6_no_0 : List Item := (0, .aload_n 0, [], nS) :: (1, .getfield 50, [6, 20, 1], nS) :: (4, .sipush (-1000), [], nS) :: (7, .iload_n 1, [], nS) :: (8, .isub, [], nS) :: (9, .dup2, [], nS) :: (10, .iaload, [], nS) :: (11, .iconst 1, [], nS) :: (12, .iadd, [], nS) :: (13, .iastore, [], nS) :: (14, .iload_n 1, [], nS) :: (15, .ireturn, [], nS) :: []
def L_X6_no : List Item := L_X6_no_0
theorem ok_X6_no : okB cX6_no L_X6_no = true := by decide +kernel
theorem lk_X6_no (l : Launch) : LKs l RX6 1 false L_X6_no := ⟨trivial, ⟨_, _, _, rfl, ⟨(RX6, TX6, 26), rfl, by decide, gT_of (List.mem_of_getElem? (i := 938) (by decide +kernel)) rfl⟩, rfl⟩, trivial, trivial, trivial, trivial, trivial, trivial, trivial, trivial, trivial, trivial, trivial⟩
theorem b_X6_no_0 : atL L_X6_no 0 = L_X6_no_0 := rfl
theorem yv_X6_no : YV yX6_no cX6_no 2 (some .int) 1 6 := ⟨⟨gT_of (List.mem_of_getElem? (i := 1010) (by decide +kernel)) rfl, gT_of (List.mem_of_getElem? (i := 74) (by decide +kernel)) rfl, ⟨by decide, by decide⟩, by decide +kernel, by decide⟩, gT_of (List.mem_of_getElem? (i := 1009) (by decide +kernel)) rfl, gT_of (List.mem_of_getElem? (i := 26) (by decide +kernel)) rfl, rfl⟩
theorem u_X6_no_0 : L_X6_no_0 = (0, .aload_n 0, [], nS) :: (1, .getfield 50, [6, 20, 1], nS) :: (4, .sipush (-1000), [], nS) :: (7, .iload_n 1, [], nS) :: (8, .isub, [], nS) :: (9, .dup2, [], nS) :: (10, .iaload, [], nS) :: (11, .iconst 1, [], nS) :: (12, .iadd, [], nS) :: (13, .iastore, [], nS) :: (14, .iload_n 1, [], nS) :: (15, .ireturn, [], nS) :: [] := nr rfl
theorem z_X6_no_0 : atL L_X6_no 0 = L_X6_no_0 := nr rfl
theorem e_X6_no {x : Addr} {c : Int32} {h : AH} {K2 : Option Value → SpS → AH → Prop} : S_X6_no SH0 [.ref x, .int c] h K2 = (fun (K : Option Value → AH → Prop) => x = 64 ∧ isCode c ∧ K (some (.int c)) (refM h c)) (fun v h' => K2 v SH0 h') := (lift_e P_X6_no [.ref x, .int c] h K2).trans (nr rfl)
set_option maxRecDepth 100000 in
set_option maxHeartbeats 4000000 in
theorem c_X6_no (l : Launch) : Ct l yX6_no cX6_no 2 (some .int) 1 0 0 S_X6_no := by
  refine Ct0_mk L_X6_no [] (by decide +kernel) (by decide) ok_X6_no (lk_X6_no l) ?_
  intro as h K hP
  match as, hP with
  | [.ref x, .int c], ⟨hx, hc, hK⟩ =>
  refine ⟨by simp [slotsN, Value.category], fun J hJ => ?_⟩
  subst hx
  obtain ⟨p1, -, -, p4⟩ := isCode_p hc
  unfold refM at hK
  refine hJ 0 _ _ _ _ ?_
  simp only [z_X6_no_0, u_X6_no_0, ev_aload_n0, ev_getfR, ev_sipush, ev_iload_n1, ev_isub, ev_dup2_int_int, ev_dup2_int_ref, ev_dup2_ref_int, ev_dup2_ref_ref, ev_iaload, ev_iconst, ev_iadd, ev_iastore, ev_iret, ro_i, ro_z, capO_z, kb_6, kb_7, kb_8, kb_9, kb_10, kb_12, kb_16, kb_20, kb_21, kb_30, kb_32, kb_40, kb_48, kb_50, kb_57, kb_59, kb_60, kb_63, kb_70, kb_78, kb_81, kb_82, kb_84, kb_97, kb_99, kb_100, kb_101, kb_119, kb_120, kb_122, ki_m1, ki_0, ki_1, ki_2, ki_3, ki_4, ki_5, ki_6, ki_7, ki_8, ki_9, ki_10, ki_11, ki_12, ki_13, ki_14, ki_15, ki_16, ki_17, ki_18, ki_19, ki_20, ki_21, ki_22, ki_23, ki_24, ki_25, ki_26, ki_27, ki_28, ki_29, ki_30, ki_31, ki_32, ki_33, ki_34, ki_35, ki_36, ki_37, ki_38, ki_39, ki_40, ki_41, ki_42, ki_43, ki_44, ki_45, ki_46, ki_47, ki_48, ki_49, ki_50, ki_51, ki_52, ki_53, ki_54, ki_55, ki_56, ki_57, ki_58, ki_59, ki_60, ki_61, ki_62, ki_63, ks_m2000, ks_m1006, ks_m1005, ks_m1004, ks_m1003, ks_m1002, ks_m1000, ks_200, ks_250, ks_255, ks_256, ks_320, ks_660, ks_999, ks_1000, ks_9999, ks_12345, ne_2, ne_10, t_0, t_40, t_41, t_42, t_43, t_44, t_45, t_46, t_47, t_64, t_65, t_66, t_67, t_68, t_69, t_70, t_71, t_72, t_73, t_74, t_75, t_76, t_77, t_78, t_79, t_80, t_81, t_82, r_0_0, r_0_1, r_0_2, r_0_4, r_0_5, r_0_6, r_0_7, r_40_0, r_40_5, r_44_0, r_44_1, r_64_0, r_64_1, r_64_3, r_64_4, r_64_5, r_64_6, r_64_7, r_64_8, r_64_9, r_64_12, r_64_17, r_64_18, r_64_19, r_64_20, r_64_22, r_64_23, r_64_24, r_64_25, t_1, t_14, t_27, t_2, t_15, t_28, Nat.reduceEqDiff, ne_eq, not_false_eq_true, false_implies, true_implies, implies_true, Nat.reduceAdd, Nat.reduceLeDiff, Nat.reduceLT, Nat.reduceMul, or_true, true_or, if_true, if_false, not_true_eq_false, and_self, bF, Nat.reduceBEq, Bool.false_and, Bool.and_false, Bool.or_self, Bool.or_false, Bool.false_or, Bool.false_eq_true, Int.reduceAdd, Bool.and_self, Bool.true_and, Bool.and_true, beq_self_eq_true, not_not_, i10_, i01_, List.length_nil, List.length_cons, true_and, and_true, false_and, and_false, kl_i, kl_a, kl_n, kl_l, tl_s, tl_n, rv_S, pd_0, pd_e, pd_r, pd_i, pd_l, p4, vpN (show refP c + 2 < 7 by omega) (by omega), nI_clamp (show refP c + 2 < 2 ^ 31 by omega)]
  exact hK
def P_X6_within : Sp0T := fun as h K => match as with
  | [.int v, .int a, .int b] => K (some (.int (b2i (a ≤ v ∧ v ≤ b)))) h
  | _ => False
def S_X6_within : SpT := lift P_X6_within
def L_X6_within_15 : List Item := (15, .ireturn, [], nS) :: []
def L_X6_within_14 : List Item := (14, .iconst 0, [], nS) :: L_X6_within_15
def L_X6_within_0 : List Item := (0, .iload_n 0, [], nS) :: (1, .iload_n 1, [], nS) :: (2, .if_icmp .lt 12, [14], nS) :: (5, .iload_n 0, [], nS) :: (6, .iload_n 2, [], nS) :: (7, .if_icmp .gt 7, [14], nS) :: (10, .iconst 1, [], nS) :: (11, .goto 4, [15], nS) :: L_X6_within_14
def L_X6_within : List Item := L_X6_within_0
theorem ok_X6_within : okB cX6_within L_X6_within = true := by decide +kernel
theorem lk_X6_within (l : Launch) : LKs l RX6 1 false L_X6_within := ⟨trivial, trivial, trivial, trivial, trivial, trivial, trivial, trivial, trivial, trivial, trivial⟩
theorem b_X6_within_0 : atL L_X6_within 0 = L_X6_within_0 := rfl
theorem b_X6_within_14 : atL L_X6_within 14 = L_X6_within_14 := rfl
theorem b_X6_within_15 : atL L_X6_within 15 = L_X6_within_15 := rfl
theorem a_X6_within_14 : afw L_X6_within [] 14 = L_X6_within_14 := rfl
theorem a_X6_within_15 : afw L_X6_within [] 15 = L_X6_within_15 := rfl
theorem yv_X6_within : YS yX6_within cX6_within 3 (some .boolean) 3 := ⟨⟨gT_of (List.mem_of_getElem? (i := 1006) (by decide +kernel)) rfl, gT_of (List.mem_of_getElem? (i := 74) (by decide +kernel)) rfl, ⟨by decide, by decide⟩, by decide +kernel, by decide⟩, gT_of (List.mem_of_getElem? (i := 1005) (by decide +kernel)) rfl⟩
theorem u_X6_within_0 : L_X6_within_0 = (0, .iload_n 0, [], nS) :: (1, .iload_n 1, [], nS) :: (2, .if_icmp .lt 12, [14], nS) :: (5, .iload_n 0, [], nS) :: (6, .iload_n 2, [], nS) :: (7, .if_icmp .gt 7, [14], nS) :: (10, .iconst 1, [], nS) :: (11, .goto 4, [15], nS) :: L_X6_within_14 := nr rfl
theorem u_X6_within_14 : L_X6_within_14 = (14, .iconst 0, [], nS) :: L_X6_within_15 := nr rfl
theorem u_X6_within_15 : L_X6_within_15 = (15, .ireturn, [], nS) :: [] := nr rfl
theorem z_X6_within_0 : atL L_X6_within 0 = L_X6_within_0 := nr rfl
theorem z_X6_within_14 : atL L_X6_within 14 = L_X6_within_14 := nr rfl
theorem z_X6_within_15 : atL L_X6_within 15 = L_X6_within_15 := nr rfl
theorem j_X6_within_14 {G : List Item → SpS → List Value → List Value → AH → Prop} {J : Nat → SpS → List Value → List Value → AH → Prop} {S : SpS} {lv st : List Value} {h : AH} : jmp G J (afw L_X6_within [] 14) 14 S lv st h = G L_X6_within_14 S lv st h := nr rfl
theorem j_X6_within_15 {G : List Item → SpS → List Value → List Value → AH → Prop} {J : Nat → SpS → List Value → List Value → AH → Prop} {S : SpS} {lv st : List Value} {h : AH} : jmp G J (afw L_X6_within [] 15) 15 S lv st h = G L_X6_within_15 S lv st h := nr rfl
theorem e_X6_within {v : Int32} {a : Int32} {b : Int32} {h : AH} {K2 : Option Value → SpS → AH → Prop} : S_X6_within SH0 [.int v, .int a, .int b] h K2 = (fun (K : Option Value → AH → Prop) => K (some (.int (b2i (a ≤ v ∧ v ≤ b)))) h) (fun v h' => K2 v SH0 h') := (lift_e P_X6_within [.int v, .int a, .int b] h K2).trans (nr rfl)
set_option maxRecDepth 100000 in
set_option maxHeartbeats 4000000 in
theorem c_X6_within (l : Launch) : Ct l yX6_within cX6_within 3 (some .boolean) 1 0 0 S_X6_within := by
  refine Ct0_mk L_X6_within [] (by decide +kernel) (by decide) ok_X6_within (lk_X6_within l) ?_
  intro as h K hP
  match as, hP with
  | [.int v, .int a, .int b], hK =>
  replace hK : (fun (K : Option Value → AH → Prop) => K (some (.int (b2i (a ≤ v ∧ v ≤ b)))) h) (fun v h' => K v SH0 h') := hK
  dsimp only at hK
  refine ⟨by simp [slotsN, Value.category], fun J hJ => ?_⟩
  refine hJ 0 _ _ _ _ ?_
  simp only [z_X6_within_0, u_X6_within_0, u_X6_within_14, u_X6_within_15, j_X6_within_14, j_X6_within_15, ev_iload_n0, ev_iload_n1, ev_ic_lt, ev_iload_n2, ev_ic_gt, ev_iconst, ev_goto, ev_iret, ro_i, ro_z, capO_z, kb_6, kb_7, kb_8, kb_9, kb_10, kb_12, kb_16, kb_20, kb_21, kb_30, kb_32, kb_40, kb_48, kb_50, kb_57, kb_59, kb_60, kb_63, kb_70, kb_78, kb_81, kb_82, kb_84, kb_97, kb_99, kb_100, kb_101, kb_119, kb_120, kb_122, ki_m1, ki_0, ki_1, ki_2, ki_3, ki_4, ki_5, ki_6, ki_7, ki_8, ki_9, ki_10, ki_11, ki_12, ki_13, ki_14, ki_15, ki_16, ki_17, ki_18, ki_19, ki_20, ki_21, ki_22, ki_23, ki_24, ki_25, ki_26, ki_27, ki_28, ki_29, ki_30, ki_31, ki_32, ki_33, ki_34, ki_35, ki_36, ki_37, ki_38, ki_39, ki_40, ki_41, ki_42, ki_43, ki_44, ki_45, ki_46, ki_47, ki_48, ki_49, ki_50, ki_51, ki_52, ki_53, ki_54, ki_55, ki_56, ki_57, ki_58, ki_59, ki_60, ki_61, ki_62, ki_63, ks_m2000, ks_m1006, ks_m1005, ks_m1004, ks_m1003, ks_m1002, ks_m1000, ks_200, ks_250, ks_255, ks_256, ks_320, ks_660, ks_999, ks_1000, ks_9999, ks_12345, ne_2, ne_10, t_0, t_40, t_41, t_42, t_43, t_44, t_45, t_46, t_47, t_64, t_65, t_66, t_67, t_68, t_69, t_70, t_71, t_72, t_73, t_74, t_75, t_76, t_77, t_78, t_79, t_80, t_81, t_82, r_0_0, r_0_1, r_0_2, r_0_4, r_0_5, r_0_6, r_0_7, r_40_0, r_40_5, r_44_0, r_44_1, r_64_0, r_64_1, r_64_3, r_64_4, r_64_5, r_64_6, r_64_7, r_64_8, r_64_9, r_64_12, r_64_17, r_64_18, r_64_19, r_64_20, r_64_22, r_64_23, r_64_24, r_64_25, t_1, t_14, t_27, t_2, t_15, t_28, Nat.reduceEqDiff, ne_eq, not_false_eq_true, false_implies, true_implies, implies_true, Nat.reduceAdd, Nat.reduceLeDiff, Nat.reduceLT, Nat.reduceMul, or_true, true_or, if_true, if_false, not_true_eq_false, and_self, bF, Nat.reduceBEq, Bool.false_and, Bool.and_false, Bool.or_self, Bool.or_false, Bool.false_or, Bool.false_eq_true, Int.reduceAdd, Bool.and_self, Bool.true_and, Bool.and_true, beq_self_eq_true, not_not_, i10_, i01_, List.length_nil, List.length_cons, true_and, and_true, false_and, and_false, kl_i, kl_a, kl_n, kl_l, tl_s, tl_n, rv_S, pd_0, pd_e, pd_r, pd_i, pd_l]
  unfold b2i at hK
  refine ⟨fun q => ?_, fun q => ⟨fun q2 => ?_, fun q2 => ?_⟩⟩
  · rw [if_neg (fun z => absurd z.1 (Int32.not_le.mpr q))] at hK; exact hK
  · rw [if_neg (fun z => absurd z.2 (Int32.not_le.mpr q2))] at hK; exact hK
  · rw [if_pos ⟨Int32.not_lt.mp q, Int32.not_lt.mp q2⟩] at hK; exact hK
def P_X6_isHeir : Sp0T := fun as h K => match as with
  | [.ref x, .int v] => x = 64 ∧ K (some (.int (b2i (inI v (gI h 64 2 - 1))))) h
  | _ => False
def S_X6_isHeir : SpT := lift P_X6_isHeir
def L_X6_isHeir_0 : List Item := (0, .iload_n 1, [], nS) :: (1, .iconst 0, [], nS) :: (2, .aload_n 0, [], nS) :: (3, .getfield 69, [6, 2, 0], nS) :: (6, .iconst 1, [], nS) :: (7, .isub, [], nS) :: (8, .invokestatic 72, [0, 3, 0, 0], S_X6_within) :: (11, .ireturn, [], nS) :: []
def L_X6_isHeir : List Item := L_X6_isHeir_0
theorem ok_X6_isHeir : okB cX6_isHeir L_X6_isHeir = true := by decide +kernel
theorem lk_X6_isHeir (l : Launch) : LKs l RX6 2 false L_X6_isHeir := ⟨trivial, trivial, trivial, ⟨_, _, _, rfl, ⟨(RX6, TX6, 26), rfl, by decide, gT_of (List.mem_of_getElem? (i := 920) (by decide +kernel)) rfl⟩, rfl⟩, trivial, trivial, Or.inl ⟨_, _, _, _, _, _, _, _, rfl, c_X6_within l, yv_X6_within, by decide, gT_of (List.mem_of_getElem? (i := 1004) (by decide +kernel)) rfl⟩, trivial, trivial⟩
theorem b_X6_isHeir_0 : atL L_X6_isHeir 0 = L_X6_isHeir_0 := rfl
theorem yv_X6_isHeir : YV yX6_isHeir cX6_isHeir 2 (some .boolean) 1 6 := ⟨⟨gT_of (List.mem_of_getElem? (i := 1045) (by decide +kernel)) rfl, gT_of (List.mem_of_getElem? (i := 74) (by decide +kernel)) rfl, ⟨by decide, by decide⟩, by decide +kernel, by decide⟩, gT_of (List.mem_of_getElem? (i := 1044) (by decide +kernel)) rfl, gT_of (List.mem_of_getElem? (i := 29) (by decide +kernel)) rfl, rfl⟩
theorem u_X6_isHeir_0 : L_X6_isHeir_0 = (0, .iload_n 1, [], nS) :: (1, .iconst 0, [], nS) :: (2, .aload_n 0, [], nS) :: (3, .getfield 69, [6, 2, 0], nS) :: (6, .iconst 1, [], nS) :: (7, .isub, [], nS) :: (8, .invokestatic 72, [0, 3, 0, 0], S_X6_within) :: (11, .ireturn, [], nS) :: [] := nr rfl
theorem z_X6_isHeir_0 : atL L_X6_isHeir 0 = L_X6_isHeir_0 := nr rfl
theorem e_X6_isHeir {x : Addr} {v : Int32} {h : AH} {K2 : Option Value → SpS → AH → Prop} : S_X6_isHeir SH0 [.ref x, .int v] h K2 = (fun (K : Option Value → AH → Prop) => x = 64 ∧ K (some (.int (b2i (inI v (gI h 64 2 - 1))))) h) (fun v h' => K2 v SH0 h') := (lift_e P_X6_isHeir [.ref x, .int v] h K2).trans (nr rfl)
set_option maxRecDepth 100000 in
set_option maxHeartbeats 4000000 in
theorem c_X6_isHeir (l : Launch) : Ct l yX6_isHeir cX6_isHeir 2 (some .boolean) 2 0 0 S_X6_isHeir := by
  refine Ct0_mk L_X6_isHeir [] (by decide +kernel) (by decide) ok_X6_isHeir (lk_X6_isHeir l) ?_
  intro as h K hP
  match as, hP with
  | [.ref x, .int v], ⟨hx, hK⟩ =>
  refine ⟨by simp [slotsN, Value.category], fun J hJ => ?_⟩
  subst hx
  refine hJ 0 _ _ _ _ ?_
  simp only [z_X6_isHeir_0, u_X6_isHeir_0, ev_iload_n1, ev_iconst, ev_aload_n0, ev_getfI, ev_isub, ev_callS3, ev_iret, ro_i, ro_z, ↓e_X6_within, capO_z, kb_6, kb_7, kb_8, kb_9, kb_10, kb_12, kb_16, kb_20, kb_21, kb_30, kb_32, kb_40, kb_48, kb_50, kb_57, kb_59, kb_60, kb_63, kb_70, kb_78, kb_81, kb_82, kb_84, kb_97, kb_99, kb_100, kb_101, kb_119, kb_120, kb_122, ki_m1, ki_0, ki_1, ki_2, ki_3, ki_4, ki_5, ki_6, ki_7, ki_8, ki_9, ki_10, ki_11, ki_12, ki_13, ki_14, ki_15, ki_16, ki_17, ki_18, ki_19, ki_20, ki_21, ki_22, ki_23, ki_24, ki_25, ki_26, ki_27, ki_28, ki_29, ki_30, ki_31, ki_32, ki_33, ki_34, ki_35, ki_36, ki_37, ki_38, ki_39, ki_40, ki_41, ki_42, ki_43, ki_44, ki_45, ki_46, ki_47, ki_48, ki_49, ki_50, ki_51, ki_52, ki_53, ki_54, ki_55, ki_56, ki_57, ki_58, ki_59, ki_60, ki_61, ki_62, ki_63, ks_m2000, ks_m1006, ks_m1005, ks_m1004, ks_m1003, ks_m1002, ks_m1000, ks_200, ks_250, ks_255, ks_256, ks_320, ks_660, ks_999, ks_1000, ks_9999, ks_12345, ne_2, ne_10, t_0, t_40, t_41, t_42, t_43, t_44, t_45, t_46, t_47, t_64, t_65, t_66, t_67, t_68, t_69, t_70, t_71, t_72, t_73, t_74, t_75, t_76, t_77, t_78, t_79, t_80, t_81, t_82, r_0_0, r_0_1, r_0_2, r_0_4, r_0_5, r_0_6, r_0_7, r_40_0, r_40_5, r_44_0, r_44_1, r_64_0, r_64_1, r_64_3, r_64_4, r_64_5, r_64_6, r_64_7, r_64_8, r_64_9, r_64_12, r_64_17, r_64_18, r_64_19, r_64_20, r_64_22, r_64_23, r_64_24, r_64_25, t_1, t_14, t_27, t_2, t_15, t_28, Nat.reduceEqDiff, ne_eq, not_false_eq_true, false_implies, true_implies, implies_true, Nat.reduceAdd, Nat.reduceLeDiff, Nat.reduceLT, Nat.reduceMul, or_true, true_or, if_true, if_false, not_true_eq_false, and_self, bF, Nat.reduceBEq, Bool.false_and, Bool.and_false, Bool.or_self, Bool.or_false, Bool.false_or, Bool.false_eq_true, Int.reduceAdd, Bool.and_self, Bool.true_and, Bool.and_true, beq_self_eq_true, not_not_, i10_, i01_, List.length_nil, List.length_cons, true_and, and_true, false_and, and_false, kl_i, kl_a, kl_n, kl_l, tl_s, tl_n, rv_S, pd_0, pd_e, pd_r, pd_i, pd_l, b2i_01]
  exact hK
def P_X6_isTime : Sp0T := fun as h K => match as with
  | [.int v] => K (some (.int (b2i (inI v 200)))) h
  | _ => False
def S_X6_isTime : SpT := lift P_X6_isTime
def L_X6_isTime_0 : List Item := (0, .iload_n 0, [], nS) :: (1, .iconst 0, [], nS) :: (2, .sipush 200, [], nS) :: (5, .invokestatic 72, [0, 3, 0, 0], S_X6_within) :: (8, .ireturn, [], nS) :: []
def L_X6_isTime : List Item := L_X6_isTime_0
theorem ok_X6_isTime : okB cX6_isTime L_X6_isTime = true := by decide +kernel
theorem lk_X6_isTime (l : Launch) : LKs l RX6 2 false L_X6_isTime := ⟨trivial, trivial, trivial, Or.inl ⟨_, _, _, _, _, _, _, _, rfl, c_X6_within l, yv_X6_within, by decide, gT_of (List.mem_of_getElem? (i := 1004) (by decide +kernel)) rfl⟩, trivial, trivial⟩
theorem b_X6_isTime_0 : atL L_X6_isTime 0 = L_X6_isTime_0 := rfl
theorem yv_X6_isTime : YS yX6_isTime cX6_isTime 1 (some .boolean) 1 := ⟨⟨gT_of (List.mem_of_getElem? (i := 1175) (by decide +kernel)) rfl, gT_of (List.mem_of_getElem? (i := 74) (by decide +kernel)) rfl, ⟨by decide, by decide⟩, by decide +kernel, by decide⟩, gT_of (List.mem_of_getElem? (i := 1174) (by decide +kernel)) rfl⟩
theorem u_X6_isTime_0 : L_X6_isTime_0 = (0, .iload_n 0, [], nS) :: (1, .iconst 0, [], nS) :: (2, .sipush 200, [], nS) :: (5, .invokestatic 72, [0, 3, 0, 0], S_X6_within) :: (8, .ireturn, [], nS) :: [] := nr rfl
theorem z_X6_isTime_0 : atL L_X6_isTime 0 = L_X6_isTime_0 := nr rfl
theorem e_X6_isTime {v : Int32} {h : AH} {K2 : Option Value → SpS → AH → Prop} : S_X6_isTime SH0 [.int v] h K2 = (fun (K : Option Value → AH → Prop) => K (some (.int (b2i (inI v 200)))) h) (fun v h' => K2 v SH0 h') := (lift_e P_X6_isTime [.int v] h K2).trans (nr rfl)
set_option maxRecDepth 100000 in
set_option maxHeartbeats 4000000 in
theorem c_X6_isTime (l : Launch) : Ct l yX6_isTime cX6_isTime 1 (some .boolean) 2 0 0 S_X6_isTime := by
  refine Ct0_mk L_X6_isTime [] (by decide +kernel) (by decide) ok_X6_isTime (lk_X6_isTime l) ?_
  intro as h K hP
  match as, hP with
  | [.int v], hK =>
  replace hK : (fun (K : Option Value → AH → Prop) => K (some (.int (b2i (inI v 200)))) h) (fun v h' => K v SH0 h') := hK
  dsimp only at hK
  refine ⟨by simp [slotsN, Value.category], fun J hJ => ?_⟩
  refine hJ 0 _ _ _ _ ?_
  simp only [z_X6_isTime_0, u_X6_isTime_0, ev_iload_n0, ev_iconst, ev_sipush, ev_callS3, ev_iret, ro_i, ro_z, ↓e_X6_within, capO_z, kb_6, kb_7, kb_8, kb_9, kb_10, kb_12, kb_16, kb_20, kb_21, kb_30, kb_32, kb_40, kb_48, kb_50, kb_57, kb_59, kb_60, kb_63, kb_70, kb_78, kb_81, kb_82, kb_84, kb_97, kb_99, kb_100, kb_101, kb_119, kb_120, kb_122, ki_m1, ki_0, ki_1, ki_2, ki_3, ki_4, ki_5, ki_6, ki_7, ki_8, ki_9, ki_10, ki_11, ki_12, ki_13, ki_14, ki_15, ki_16, ki_17, ki_18, ki_19, ki_20, ki_21, ki_22, ki_23, ki_24, ki_25, ki_26, ki_27, ki_28, ki_29, ki_30, ki_31, ki_32, ki_33, ki_34, ki_35, ki_36, ki_37, ki_38, ki_39, ki_40, ki_41, ki_42, ki_43, ki_44, ki_45, ki_46, ki_47, ki_48, ki_49, ki_50, ki_51, ki_52, ki_53, ki_54, ki_55, ki_56, ki_57, ki_58, ki_59, ki_60, ki_61, ki_62, ki_63, ks_m2000, ks_m1006, ks_m1005, ks_m1004, ks_m1003, ks_m1002, ks_m1000, ks_200, ks_250, ks_255, ks_256, ks_320, ks_660, ks_999, ks_1000, ks_9999, ks_12345, ne_2, ne_10, t_0, t_40, t_41, t_42, t_43, t_44, t_45, t_46, t_47, t_64, t_65, t_66, t_67, t_68, t_69, t_70, t_71, t_72, t_73, t_74, t_75, t_76, t_77, t_78, t_79, t_80, t_81, t_82, r_0_0, r_0_1, r_0_2, r_0_4, r_0_5, r_0_6, r_0_7, r_40_0, r_40_5, r_44_0, r_44_1, r_64_0, r_64_1, r_64_3, r_64_4, r_64_5, r_64_6, r_64_7, r_64_8, r_64_9, r_64_12, r_64_17, r_64_18, r_64_19, r_64_20, r_64_22, r_64_23, r_64_24, r_64_25, t_1, t_14, t_27, t_2, t_15, t_28, Nat.reduceEqDiff, ne_eq, not_false_eq_true, false_implies, true_implies, implies_true, Nat.reduceAdd, Nat.reduceLeDiff, Nat.reduceLT, Nat.reduceMul, or_true, true_or, if_true, if_false, not_true_eq_false, and_self, bF, Nat.reduceBEq, Bool.false_and, Bool.and_false, Bool.or_self, Bool.or_false, Bool.false_or, Bool.false_eq_true, Int.reduceAdd, Bool.and_self, Bool.true_and, Bool.and_true, beq_self_eq_true, not_not_, i10_, i01_, List.length_nil, List.length_cons, true_and, and_true, false_and, and_false, kl_i, kl_a, kl_n, kl_l, tl_s, tl_n, rv_S, pd_0, pd_e, pd_r, pd_i, pd_l, b2i_01]
  exact hK
def P_X6_isShelf : Sp0T := fun as h K => match as with
  | [.int v] => K (some (.int (b2i (inI v 7)))) h
  | _ => False
def S_X6_isShelf : SpT := lift P_X6_isShelf
def L_X6_isShelf_0 : List Item := (0, .iload_n 0, [], nS) :: (1, .iconst 0, [], nS) :: (2, .bipush 7, [], nS) :: (4, .invokestatic 72, [0, 3, 0, 0], S_X6_within) :: (7, .ireturn, [], nS) :: []
def L_X6_isShelf : List Item := L_X6_isShelf_0
theorem ok_X6_isShelf : okB cX6_isShelf L_X6_isShelf = true := by decide +kernel
theorem lk_X6_isShelf (l : Launch) : LKs l RX6 2 false L_X6_isShelf := ⟨trivial, trivial, trivial, Or.inl ⟨_, _, _, _, _, _, _, _, rfl, c_X6_within l, yv_X6_within, by decide, gT_of (List.mem_of_getElem? (i := 1004) (by decide +kernel)) rfl⟩, trivial, trivial⟩
theorem b_X6_isShelf_0 : atL L_X6_isShelf 0 = L_X6_isShelf_0 := rfl
theorem yv_X6_isShelf : YS yX6_isShelf cX6_isShelf 1 (some .boolean) 1 := ⟨⟨gT_of (List.mem_of_getElem? (i := 1003) (by decide +kernel)) rfl, gT_of (List.mem_of_getElem? (i := 74) (by decide +kernel)) rfl, ⟨by decide, by decide⟩, by decide +kernel, by decide⟩, gT_of (List.mem_of_getElem? (i := 1002) (by decide +kernel)) rfl⟩
theorem u_X6_isShelf_0 : L_X6_isShelf_0 = (0, .iload_n 0, [], nS) :: (1, .iconst 0, [], nS) :: (2, .bipush 7, [], nS) :: (4, .invokestatic 72, [0, 3, 0, 0], S_X6_within) :: (7, .ireturn, [], nS) :: [] := nr rfl
theorem z_X6_isShelf_0 : atL L_X6_isShelf 0 = L_X6_isShelf_0 := nr rfl
theorem e_X6_isShelf {v : Int32} {h : AH} {K2 : Option Value → SpS → AH → Prop} : S_X6_isShelf SH0 [.int v] h K2 = (fun (K : Option Value → AH → Prop) => K (some (.int (b2i (inI v 7)))) h) (fun v h' => K2 v SH0 h') := (lift_e P_X6_isShelf [.int v] h K2).trans (nr rfl)
set_option maxRecDepth 100000 in
set_option maxHeartbeats 4000000 in
theorem c_X6_isShelf (l : Launch) : Ct l yX6_isShelf cX6_isShelf 1 (some .boolean) 2 0 0 S_X6_isShelf := by
  refine Ct0_mk L_X6_isShelf [] (by decide +kernel) (by decide) ok_X6_isShelf (lk_X6_isShelf l) ?_
  intro as h K hP
  match as, hP with
  | [.int v], hK =>
  replace hK : (fun (K : Option Value → AH → Prop) => K (some (.int (b2i (inI v 7)))) h) (fun v h' => K v SH0 h') := hK
  dsimp only at hK
  refine ⟨by simp [slotsN, Value.category], fun J hJ => ?_⟩
  refine hJ 0 _ _ _ _ ?_
  simp only [z_X6_isShelf_0, u_X6_isShelf_0, ev_iload_n0, ev_iconst, ev_bipush, ev_callS3, ev_iret, ro_i, ro_z, ↓e_X6_within, capO_z, kb_6, kb_7, kb_8, kb_9, kb_10, kb_12, kb_16, kb_20, kb_21, kb_30, kb_32, kb_40, kb_48, kb_50, kb_57, kb_59, kb_60, kb_63, kb_70, kb_78, kb_81, kb_82, kb_84, kb_97, kb_99, kb_100, kb_101, kb_119, kb_120, kb_122, ki_m1, ki_0, ki_1, ki_2, ki_3, ki_4, ki_5, ki_6, ki_7, ki_8, ki_9, ki_10, ki_11, ki_12, ki_13, ki_14, ki_15, ki_16, ki_17, ki_18, ki_19, ki_20, ki_21, ki_22, ki_23, ki_24, ki_25, ki_26, ki_27, ki_28, ki_29, ki_30, ki_31, ki_32, ki_33, ki_34, ki_35, ki_36, ki_37, ki_38, ki_39, ki_40, ki_41, ki_42, ki_43, ki_44, ki_45, ki_46, ki_47, ki_48, ki_49, ki_50, ki_51, ki_52, ki_53, ki_54, ki_55, ki_56, ki_57, ki_58, ki_59, ki_60, ki_61, ki_62, ki_63, ks_m2000, ks_m1006, ks_m1005, ks_m1004, ks_m1003, ks_m1002, ks_m1000, ks_200, ks_250, ks_255, ks_256, ks_320, ks_660, ks_999, ks_1000, ks_9999, ks_12345, ne_2, ne_10, t_0, t_40, t_41, t_42, t_43, t_44, t_45, t_46, t_47, t_64, t_65, t_66, t_67, t_68, t_69, t_70, t_71, t_72, t_73, t_74, t_75, t_76, t_77, t_78, t_79, t_80, t_81, t_82, r_0_0, r_0_1, r_0_2, r_0_4, r_0_5, r_0_6, r_0_7, r_40_0, r_40_5, r_44_0, r_44_1, r_64_0, r_64_1, r_64_3, r_64_4, r_64_5, r_64_6, r_64_7, r_64_8, r_64_9, r_64_12, r_64_17, r_64_18, r_64_19, r_64_20, r_64_22, r_64_23, r_64_24, r_64_25, t_1, t_14, t_27, t_2, t_15, t_28, Nat.reduceEqDiff, ne_eq, not_false_eq_true, false_implies, true_implies, implies_true, Nat.reduceAdd, Nat.reduceLeDiff, Nat.reduceLT, Nat.reduceMul, or_true, true_or, if_true, if_false, not_true_eq_false, and_self, bF, Nat.reduceBEq, Bool.false_and, Bool.and_false, Bool.or_self, Bool.or_false, Bool.false_or, Bool.false_eq_true, Int.reduceAdd, Bool.and_self, Bool.true_and, Bool.and_true, beq_self_eq_true, not_not_, i10_, i01_, List.length_nil, List.length_cons, true_and, and_true, false_and, and_false, kl_i, kl_a, kl_n, kl_l, tl_s, tl_n, rv_S, pd_0, pd_e, pd_r, pd_i, pd_l, b2i_01]
  exact hK
def P_X6_isThing : Sp0T := fun as h K => match as with
  | [.long v] => K (some (.int (b2i (0 ≤ v ∧ v < 8)))) h
  | _ => False
def S_X6_isThing : SpT := lift P_X6_isThing
def L_X6_isThing_19 : List Item := (19, .ireturn, [], nS) :: []
def L_X6_isThing_18 : List Item := (18, .iconst 0, [], nS) :: L_X6_isThing_19
def L_X6_isThing_0 : List Item := (0, .lload_n 0, [], nS) :: (1, .lconst 0, [], nS) :: (2, .lcmp, [], nS) :: (3, .ifCond .lt 15, [18], nS) :: (6, .lload_n 0, [], nS) :: (7, .ldc2_w 76, [0], nS) :: (10, .lcmp, [], nS) :: (11, .ifCond .ge 7, [18], nS) :: (14, .iconst 1, [], nS) :: (15, .goto 4, [19], nS) :: L_X6_isThing_18
def L_X6_isThing : List Item := L_X6_isThing_0
theorem ok_X6_isThing : okB cX6_isThing L_X6_isThing = true := by decide +kernel
theorem lk_X6_isThing (l : Launch) : LKs l RX6 1 false L_X6_isThing := ⟨trivial, trivial, trivial, trivial, trivial, ⟨_, rfl, gT_of (List.mem_of_getElem? (i := 1073) (by decide +kernel)) rfl⟩, trivial, trivial, trivial, trivial, trivial, trivial, trivial⟩
theorem b_X6_isThing_0 : atL L_X6_isThing 0 = L_X6_isThing_0 := rfl
theorem b_X6_isThing_18 : atL L_X6_isThing 18 = L_X6_isThing_18 := rfl
theorem b_X6_isThing_19 : atL L_X6_isThing 19 = L_X6_isThing_19 := rfl
theorem a_X6_isThing_18 : afw L_X6_isThing [] 18 = L_X6_isThing_18 := rfl
theorem a_X6_isThing_19 : afw L_X6_isThing [] 19 = L_X6_isThing_19 := rfl
theorem yv_X6_isThing : YS yX6_isThing cX6_isThing 2 (some .boolean) 1 := ⟨⟨gT_of (List.mem_of_getElem? (i := 1072) (by decide +kernel)) rfl, gT_of (List.mem_of_getElem? (i := 74) (by decide +kernel)) rfl, ⟨by decide, by decide⟩, by decide +kernel, by decide⟩, gT_of (List.mem_of_getElem? (i := 1071) (by decide +kernel)) rfl⟩
theorem u_X6_isThing_0 : L_X6_isThing_0 = (0, .lload_n 0, [], nS) :: (1, .lconst 0, [], nS) :: (2, .lcmp, [], nS) :: (3, .ifCond .lt 15, [18], nS) :: (6, .lload_n 0, [], nS) :: (7, .ldc2_w 76, [0], nS) :: (10, .lcmp, [], nS) :: (11, .ifCond .ge 7, [18], nS) :: (14, .iconst 1, [], nS) :: (15, .goto 4, [19], nS) :: L_X6_isThing_18 := nr rfl
theorem u_X6_isThing_18 : L_X6_isThing_18 = (18, .iconst 0, [], nS) :: L_X6_isThing_19 := nr rfl
theorem u_X6_isThing_19 : L_X6_isThing_19 = (19, .ireturn, [], nS) :: [] := nr rfl
theorem z_X6_isThing_0 : atL L_X6_isThing 0 = L_X6_isThing_0 := nr rfl
theorem z_X6_isThing_18 : atL L_X6_isThing 18 = L_X6_isThing_18 := nr rfl
theorem z_X6_isThing_19 : atL L_X6_isThing 19 = L_X6_isThing_19 := nr rfl
theorem j_X6_isThing_18 {G : List Item → SpS → List Value → List Value → AH → Prop} {J : Nat → SpS → List Value → List Value → AH → Prop} {S : SpS} {lv st : List Value} {h : AH} : jmp G J (afw L_X6_isThing [] 18) 18 S lv st h = G L_X6_isThing_18 S lv st h := nr rfl
theorem j_X6_isThing_19 {G : List Item → SpS → List Value → List Value → AH → Prop} {J : Nat → SpS → List Value → List Value → AH → Prop} {S : SpS} {lv st : List Value} {h : AH} : jmp G J (afw L_X6_isThing [] 19) 19 S lv st h = G L_X6_isThing_19 S lv st h := nr rfl
theorem e_X6_isThing {v : Int64} {h : AH} {K2 : Option Value → SpS → AH → Prop} : S_X6_isThing SH0 [.long v] h K2 = (fun (K : Option Value → AH → Prop) => K (some (.int (b2i (0 ≤ v ∧ v < 8)))) h) (fun v h' => K2 v SH0 h') := (lift_e P_X6_isThing [.long v] h K2).trans (nr rfl)
set_option maxRecDepth 100000 in
set_option maxHeartbeats 4000000 in
theorem c_X6_isThing (l : Launch) : Ct l yX6_isThing cX6_isThing 2 (some .boolean) 1 0 0 S_X6_isThing := by
  refine Ct0_mk L_X6_isThing [] (by decide +kernel) (by decide) ok_X6_isThing (lk_X6_isThing l) ?_
  intro as h K hP
  match as, hP with
  | [.long v], hK =>
  replace hK : (fun (K : Option Value → AH → Prop) => K (some (.int (b2i (0 ≤ v ∧ v < 8)))) h) (fun v h' => K v SH0 h') := hK
  dsimp only at hK
  refine ⟨by simp [slotsN, Value.category], fun J hJ => ?_⟩
  refine hJ 0 _ _ _ _ ?_
  simp only [z_X6_isThing_0, u_X6_isThing_0, u_X6_isThing_18, u_X6_isThing_19, j_X6_isThing_18, j_X6_isThing_19, ev_lload_n0, ev_lconst0, ev_lcmp, ev_if_lt, ev_ldc2_w, ev_if_ge, ev_iconst, ev_goto, ev_iret, ro_i, ro_z, capO_z, kb_6, kb_7, kb_8, kb_9, kb_10, kb_12, kb_16, kb_20, kb_21, kb_30, kb_32, kb_40, kb_48, kb_50, kb_57, kb_59, kb_60, kb_63, kb_70, kb_78, kb_81, kb_82, kb_84, kb_97, kb_99, kb_100, kb_101, kb_119, kb_120, kb_122, ki_m1, ki_0, ki_1, ki_2, ki_3, ki_4, ki_5, ki_6, ki_7, ki_8, ki_9, ki_10, ki_11, ki_12, ki_13, ki_14, ki_15, ki_16, ki_17, ki_18, ki_19, ki_20, ki_21, ki_22, ki_23, ki_24, ki_25, ki_26, ki_27, ki_28, ki_29, ki_30, ki_31, ki_32, ki_33, ki_34, ki_35, ki_36, ki_37, ki_38, ki_39, ki_40, ki_41, ki_42, ki_43, ki_44, ki_45, ki_46, ki_47, ki_48, ki_49, ki_50, ki_51, ki_52, ki_53, ki_54, ki_55, ki_56, ki_57, ki_58, ki_59, ki_60, ki_61, ki_62, ki_63, ks_m2000, ks_m1006, ks_m1005, ks_m1004, ks_m1003, ks_m1002, ks_m1000, ks_200, ks_250, ks_255, ks_256, ks_320, ks_660, ks_999, ks_1000, ks_9999, ks_12345, ne_2, ne_10, t_0, t_40, t_41, t_42, t_43, t_44, t_45, t_46, t_47, t_64, t_65, t_66, t_67, t_68, t_69, t_70, t_71, t_72, t_73, t_74, t_75, t_76, t_77, t_78, t_79, t_80, t_81, t_82, r_0_0, r_0_1, r_0_2, r_0_4, r_0_5, r_0_6, r_0_7, r_40_0, r_40_5, r_44_0, r_44_1, r_64_0, r_64_1, r_64_3, r_64_4, r_64_5, r_64_6, r_64_7, r_64_8, r_64_9, r_64_12, r_64_17, r_64_18, r_64_19, r_64_20, r_64_22, r_64_23, r_64_24, r_64_25, t_1, t_14, t_27, t_2, t_15, t_28, Nat.reduceEqDiff, ne_eq, not_false_eq_true, false_implies, true_implies, implies_true, Nat.reduceAdd, Nat.reduceLeDiff, Nat.reduceLT, Nat.reduceMul, or_true, true_or, if_true, if_false, not_true_eq_false, and_self, bF, Nat.reduceBEq, Bool.false_and, Bool.and_false, Bool.or_self, Bool.or_false, Bool.false_or, Bool.false_eq_true, Int.reduceAdd, Bool.and_self, Bool.true_and, Bool.and_true, beq_self_eq_true, not_not_, i10_, i01_, List.length_nil, List.length_cons, true_and, and_true, false_and, and_false, kl_i, kl_a, kl_n, kl_l, tl_s, tl_n, rv_S, pd_0, pd_e, pd_r, pd_i, pd_l, b2i_01, lc_lt, lc_ge]
  unfold b2i at hK
  refine ⟨fun q => ?_, fun q x hx => ?_⟩
  · rw [if_neg (fun z => absurd z.1 (Int64.not_le.mpr q))] at hK; exact hK
  · subst hx
    show ((8 : Int64) ≤ v → _) ∧ (¬ (8 : Int64) ≤ v → _)
    refine ⟨fun q2 => ?_, fun q2 => ?_⟩
    · rw [if_neg (fun z => absurd z.2 (Int64.not_lt.mpr q2))] at hK; exact hK
    · rw [if_pos ⟨Int64.not_lt.mp q, Int64.not_le.mp q2⟩] at hK; exact hK
def P_X6_isRow : Sp0T := fun as h K => match as with
  | [.ref x, .int v] => x = 64 ∧ ∃ s : Nat, s < 8 ∧ v = nI s ∧ K (some (.int (b2i (inI (gI h 75 s) 4)))) h
  | _ => False
def S_X6_isRow : SpT := lift P_X6_isRow
def L_X6_isRow_0 : List Item := (0, .aload_n 0, [], nS) :: (1, .getfield 40, [6, 17, 1], nS) :: (4, .iload_n 1, [], nS) :: (5, .iaload, [], nS) :: (6, .iconst 0, [], nS) :: (7, .iconst 4, [], nS) :: (8, .invokestatic 72, [0, 3, 0, 0], S_X6_within) :: (11, .ireturn, [], nS) :: []
def L_X6_isRow : List Item := L_X6_isRow_0
theorem ok_X6_isRow : okB cX6_isRow L_X6_isRow = true := by decide +kernel
theorem lk_X6_isRow (l : Launch) : LKs l RX6 2 false L_X6_isRow := ⟨trivial, ⟨_, _, _, rfl, ⟨(RX6, TX6, 26), rfl, by decide, gT_of (List.mem_of_getElem? (i := 935) (by decide +kernel)) rfl⟩, rfl⟩, trivial, trivial, trivial, trivial, Or.inl ⟨_, _, _, _, _, _, _, _, rfl, c_X6_within l, yv_X6_within, by decide, gT_of (List.mem_of_getElem? (i := 1004) (by decide +kernel)) rfl⟩, trivial, trivial⟩
theorem b_X6_isRow_0 : atL L_X6_isRow 0 = L_X6_isRow_0 := rfl
theorem yv_X6_isRow : YV yX6_isRow cX6_isRow 2 (some .boolean) 1 6 := ⟨⟨gT_of (List.mem_of_getElem? (i := 1018) (by decide +kernel)) rfl, gT_of (List.mem_of_getElem? (i := 74) (by decide +kernel)) rfl, ⟨by decide, by decide⟩, by decide +kernel, by decide⟩, gT_of (List.mem_of_getElem? (i := 1017) (by decide +kernel)) rfl, gT_of (List.mem_of_getElem? (i := 27) (by decide +kernel)) rfl, rfl⟩
theorem u_X6_isRow_0 : L_X6_isRow_0 = (0, .aload_n 0, [], nS) :: (1, .getfield 40, [6, 17, 1], nS) :: (4, .iload_n 1, [], nS) :: (5, .iaload, [], nS) :: (6, .iconst 0, [], nS) :: (7, .iconst 4, [], nS) :: (8, .invokestatic 72, [0, 3, 0, 0], S_X6_within) :: (11, .ireturn, [], nS) :: [] := nr rfl
theorem z_X6_isRow_0 : atL L_X6_isRow 0 = L_X6_isRow_0 := nr rfl
theorem e_X6_isRow {x : Addr} {v : Int32} {h : AH} {K2 : Option Value → SpS → AH → Prop} : S_X6_isRow SH0 [.ref x, .int v] h K2 = (fun (K : Option Value → AH → Prop) => x = 64 ∧ ∃ s : Nat, s < 8 ∧ v = nI s ∧ K (some (.int (b2i (inI (gI h 75 s) 4)))) h) (fun v h' => K2 v SH0 h') := (lift_e P_X6_isRow [.ref x, .int v] h K2).trans (nr rfl)
set_option maxRecDepth 100000 in
set_option maxHeartbeats 4000000 in
theorem c_X6_isRow (l : Launch) : Ct l yX6_isRow cX6_isRow 2 (some .boolean) 2 0 0 S_X6_isRow := by
  refine Ct0_mk L_X6_isRow [] (by decide +kernel) (by decide) ok_X6_isRow (lk_X6_isRow l) ?_
  intro as h K hP
  match as, hP with
  | [.ref x, .int v], ⟨hx, s, hs, hv, hK⟩ =>
  refine ⟨by simp [slotsN, Value.category], fun J hJ => ?_⟩
  subst hx hv
  refine hJ 0 _ _ _ _ ?_
  simp only [z_X6_isRow_0, u_X6_isRow_0, ev_aload_n0, ev_getfR, ev_iload_n1, ev_iaload, ev_iconst, ev_callS3, ev_iret, ro_i, ro_z, ↓e_X6_within, capO_z, kb_6, kb_7, kb_8, kb_9, kb_10, kb_12, kb_16, kb_20, kb_21, kb_30, kb_32, kb_40, kb_48, kb_50, kb_57, kb_59, kb_60, kb_63, kb_70, kb_78, kb_81, kb_82, kb_84, kb_97, kb_99, kb_100, kb_101, kb_119, kb_120, kb_122, ki_m1, ki_0, ki_1, ki_2, ki_3, ki_4, ki_5, ki_6, ki_7, ki_8, ki_9, ki_10, ki_11, ki_12, ki_13, ki_14, ki_15, ki_16, ki_17, ki_18, ki_19, ki_20, ki_21, ki_22, ki_23, ki_24, ki_25, ki_26, ki_27, ki_28, ki_29, ki_30, ki_31, ki_32, ki_33, ki_34, ki_35, ki_36, ki_37, ki_38, ki_39, ki_40, ki_41, ki_42, ki_43, ki_44, ki_45, ki_46, ki_47, ki_48, ki_49, ki_50, ki_51, ki_52, ki_53, ki_54, ki_55, ki_56, ki_57, ki_58, ki_59, ki_60, ki_61, ki_62, ki_63, ks_m2000, ks_m1006, ks_m1005, ks_m1004, ks_m1003, ks_m1002, ks_m1000, ks_200, ks_250, ks_255, ks_256, ks_320, ks_660, ks_999, ks_1000, ks_9999, ks_12345, ne_2, ne_10, t_0, t_40, t_41, t_42, t_43, t_44, t_45, t_46, t_47, t_64, t_65, t_66, t_67, t_68, t_69, t_70, t_71, t_72, t_73, t_74, t_75, t_76, t_77, t_78, t_79, t_80, t_81, t_82, r_0_0, r_0_1, r_0_2, r_0_4, r_0_5, r_0_6, r_0_7, r_40_0, r_40_5, r_44_0, r_44_1, r_64_0, r_64_1, r_64_3, r_64_4, r_64_5, r_64_6, r_64_7, r_64_8, r_64_9, r_64_12, r_64_17, r_64_18, r_64_19, r_64_20, r_64_22, r_64_23, r_64_24, r_64_25, t_1, t_14, t_27, t_2, t_15, t_28, Nat.reduceEqDiff, ne_eq, not_false_eq_true, false_implies, true_implies, implies_true, Nat.reduceAdd, Nat.reduceLeDiff, Nat.reduceLT, Nat.reduceMul, or_true, true_or, if_true, if_false, not_true_eq_false, and_self, bF, Nat.reduceBEq, Bool.false_and, Bool.and_false, Bool.or_self, Bool.or_false, Bool.false_or, Bool.false_eq_true, Int.reduceAdd, Bool.and_self, Bool.true_and, Bool.and_true, beq_self_eq_true, not_not_, i10_, i01_, List.length_nil, List.length_cons, true_and, and_true, false_and, and_false, kl_i, kl_a, kl_n, kl_l, tl_s, tl_n, rv_S, pd_0, pd_e, pd_r, pd_i, pd_l, b2i_01, vp8 hs, nI_clamp (show s < 2 ^ 31 by omega)]
  exact hK
def P_X6_noRow : Sp0T := fun as h K => match as with
  | [.ref x, .int v] => x = 64 ∧ ∃ s : Nat, s < 8 ∧ v = nI s ∧ K (some (.int (if 10 ≤ gI h 75 s then -1003 else if gI h 75 s < 0 then -1004 else 0))) h
  | _ => False
def S_X6_noRow : SpT := lift P_X6_noRow
def L_X6_noRow_33 : List Item := (33, .ireturn, [], nS) :: []
def L_X6_noRow_32 : List Item := (32, .iconst 0, [], nS) :: L_X6_noRow_33
def L_X6_noRow_17 : List Item := (17, .aload_n 0, [], nS) :: (18, .getfield 40, [6, 17, 1], nS) :: (21, .iload_n 1, [], nS) :: (22, .iaload, [], nS) :: (23, .ifCond .ge 9, [32], nS) :: (26, .sipush (-1004), [], nS) :: (29, .goto 4, [33], nS) :: L_X6_noRow_32
def L_X6_noRow_0 : List Item := (0, .aload_n 0, [], nS) :: (1, .getfield 40, [6, 17, 1], nS) :: (4, .iload_n 1, [], nS) :: (5, .iaload, [], nS) :: (6, .bipush 10, [], nS) :: (8, .if_icmp .lt 9, [17], nS) :: (11, .sipush (-1003), [], nS) :: (14, .goto 19, [33], nS) :: L_X6_noRow_17
def L_X6_noRow : List Item := L_X6_noRow_0
theorem ok_X6_noRow : okB cX6_noRow L_X6_noRow = true := by decide +kernel
theorem lk_X6_noRow (l : Launch) : LKs l RX6 1 false L_X6_noRow := ⟨trivial, ⟨_, _, _, rfl, ⟨(RX6, TX6, 26), rfl, by decide, gT_of (List.mem_of_getElem? (i := 935) (by decide +kernel)) rfl⟩, rfl⟩, trivial, trivial, trivial, trivial, trivial, trivial, trivial, ⟨_, _, _, rfl, ⟨(RX6, TX6, 26), rfl, by decide, gT_of (List.mem_of_getElem? (i := 935) (by decide +kernel)) rfl⟩, rfl⟩, trivial, trivial, trivial, trivial, trivial, trivial, trivial, trivial⟩
theorem b_X6_noRow_0 : atL L_X6_noRow 0 = L_X6_noRow_0 := rfl
theorem b_X6_noRow_17 : atL L_X6_noRow 17 = L_X6_noRow_17 := rfl
theorem b_X6_noRow_32 : atL L_X6_noRow 32 = L_X6_noRow_32 := rfl
theorem b_X6_noRow_33 : atL L_X6_noRow 33 = L_X6_noRow_33 := rfl
theorem a_X6_noRow_17 : afw L_X6_noRow [] 17 = L_X6_noRow_17 := rfl
theorem a_X6_noRow_32 : afw L_X6_noRow [] 32 = L_X6_noRow_32 := rfl
theorem a_X6_noRow_33 : afw L_X6_noRow [] 33 = L_X6_noRow_33 := rfl
theorem yv_X6_noRow : YV yX6_noRow cX6_noRow 2 (some .int) 1 6 := ⟨⟨gT_of (List.mem_of_getElem? (i := 1022) (by decide +kernel)) rfl, gT_of (List.mem_of_getElem? (i := 74) (by decide +kernel)) rfl, ⟨by decide, by decide⟩, by decide +kernel, by decide⟩, gT_of (List.mem_of_getElem? (i := 1021) (by decide +kernel)) rfl, gT_of (List.mem_of_getElem? (i := 28) (by decide +kernel)) rfl, rfl⟩
theorem u_X6_noRow_0 : L_X6_noRow_0 = (0, .aload_n 0, [], nS) :: (1, .getfield 40, [6, 17, 1], nS) :: (4, .iload_n 1, [], nS) :: (5, .iaload, [], nS) :: (6, .bipush 10, [], nS) :: (8, .if_icmp .lt 9, [17], nS) :: (11, .sipush (-1003), [], nS) :: (14, .goto 19, [33], nS) :: L_X6_noRow_17 := nr rfl
theorem u_X6_noRow_17 : L_X6_noRow_17 = (17, .aload_n 0, [], nS) :: (18, .getfield 40, [6, 17, 1], nS) :: (21, .iload_n 1, [], nS) :: (22, .iaload, [], nS) :: (23, .ifCond .ge 9, [32], nS) :: (26, .sipush (-1004), [], nS) :: (29, .goto 4, [33], nS) :: L_X6_noRow_32 := nr rfl
theorem u_X6_noRow_32 : L_X6_noRow_32 = (32, .iconst 0, [], nS) :: L_X6_noRow_33 := nr rfl
theorem u_X6_noRow_33 : L_X6_noRow_33 = (33, .ireturn, [], nS) :: [] := nr rfl
theorem z_X6_noRow_0 : atL L_X6_noRow 0 = L_X6_noRow_0 := nr rfl
theorem z_X6_noRow_17 : atL L_X6_noRow 17 = L_X6_noRow_17 := nr rfl
theorem z_X6_noRow_32 : atL L_X6_noRow 32 = L_X6_noRow_32 := nr rfl
theorem z_X6_noRow_33 : atL L_X6_noRow 33 = L_X6_noRow_33 := nr rfl
theorem j_X6_noRow_17 {G : List Item → SpS → List Value → List Value → AH → Prop} {J : Nat → SpS → List Value → List Value → AH → Prop} {S : SpS} {lv st : List Value} {h : AH} : jmp G J (afw L_X6_noRow [] 17) 17 S lv st h = G L_X6_noRow_17 S lv st h := nr rfl
theorem j_X6_noRow_32 {G : List Item → SpS → List Value → List Value → AH → Prop} {J : Nat → SpS → List Value → List Value → AH → Prop} {S : SpS} {lv st : List Value} {h : AH} : jmp G J (afw L_X6_noRow [] 32) 32 S lv st h = G L_X6_noRow_32 S lv st h := nr rfl
theorem j_X6_noRow_33 {G : List Item → SpS → List Value → List Value → AH → Prop} {J : Nat → SpS → List Value → List Value → AH → Prop} {S : SpS} {lv st : List Value} {h : AH} : jmp G J (afw L_X6_noRow [] 33) 33 S lv st h = G L_X6_noRow_33 S lv st h := nr rfl
theorem e_X6_noRow {x : Addr} {v : Int32} {h : AH} {K2 : Option Value → SpS → AH → Prop} : S_X6_noRow SH0 [.ref x, .int v] h K2 = (fun (K : Option Value → AH → Prop) => x = 64 ∧ ∃ s : Nat, s < 8 ∧ v = nI s ∧ K (some (.int (if 10 ≤ gI h 75 s then -1003 else if gI h 75 s < 0 then -1004 else 0))) h) (fun v h' => K2 v SH0 h') := (lift_e P_X6_noRow [.ref x, .int v] h K2).trans (nr rfl)
set_option maxRecDepth 100000 in
set_option maxHeartbeats 4000000 in
theorem c_X6_noRow (l : Launch) : Ct l yX6_noRow cX6_noRow 2 (some .int) 1 0 0 S_X6_noRow := by
  refine Ct0_mk L_X6_noRow [] (by decide +kernel) (by decide) ok_X6_noRow (lk_X6_noRow l) ?_
  intro as h K hP
  match as, hP with
  | [.ref x, .int v], ⟨hx, s, hs, hv, hK⟩ =>
  refine ⟨by simp [slotsN, Value.category], fun J hJ => ?_⟩
  subst hx hv
  refine hJ 0 _ _ _ _ ?_
  simp only [z_X6_noRow_0, u_X6_noRow_0, u_X6_noRow_17, u_X6_noRow_32, u_X6_noRow_33, j_X6_noRow_17, j_X6_noRow_32, j_X6_noRow_33, ev_aload_n0, ev_getfR, ev_iload_n1, ev_iaload, ev_bipush, ev_ic_lt, ev_sipush, ev_goto, ev_if_ge, ev_iconst, ev_iret, ro_i, ro_z, capO_z, kb_6, kb_7, kb_8, kb_9, kb_10, kb_12, kb_16, kb_20, kb_21, kb_30, kb_32, kb_40, kb_48, kb_50, kb_57, kb_59, kb_60, kb_63, kb_70, kb_78, kb_81, kb_82, kb_84, kb_97, kb_99, kb_100, kb_101, kb_119, kb_120, kb_122, ki_m1, ki_0, ki_1, ki_2, ki_3, ki_4, ki_5, ki_6, ki_7, ki_8, ki_9, ki_10, ki_11, ki_12, ki_13, ki_14, ki_15, ki_16, ki_17, ki_18, ki_19, ki_20, ki_21, ki_22, ki_23, ki_24, ki_25, ki_26, ki_27, ki_28, ki_29, ki_30, ki_31, ki_32, ki_33, ki_34, ki_35, ki_36, ki_37, ki_38, ki_39, ki_40, ki_41, ki_42, ki_43, ki_44, ki_45, ki_46, ki_47, ki_48, ki_49, ki_50, ki_51, ki_52, ki_53, ki_54, ki_55, ki_56, ki_57, ki_58, ki_59, ki_60, ki_61, ki_62, ki_63, ks_m2000, ks_m1006, ks_m1005, ks_m1004, ks_m1003, ks_m1002, ks_m1000, ks_200, ks_250, ks_255, ks_256, ks_320, ks_660, ks_999, ks_1000, ks_9999, ks_12345, ne_2, ne_10, t_0, t_40, t_41, t_42, t_43, t_44, t_45, t_46, t_47, t_64, t_65, t_66, t_67, t_68, t_69, t_70, t_71, t_72, t_73, t_74, t_75, t_76, t_77, t_78, t_79, t_80, t_81, t_82, r_0_0, r_0_1, r_0_2, r_0_4, r_0_5, r_0_6, r_0_7, r_40_0, r_40_5, r_44_0, r_44_1, r_64_0, r_64_1, r_64_3, r_64_4, r_64_5, r_64_6, r_64_7, r_64_8, r_64_9, r_64_12, r_64_17, r_64_18, r_64_19, r_64_20, r_64_22, r_64_23, r_64_24, r_64_25, t_1, t_14, t_27, t_2, t_15, t_28, Nat.reduceEqDiff, ne_eq, not_false_eq_true, false_implies, true_implies, implies_true, Nat.reduceAdd, Nat.reduceLeDiff, Nat.reduceLT, Nat.reduceMul, or_true, true_or, if_true, if_false, not_true_eq_false, and_self, bF, Nat.reduceBEq, Bool.false_and, Bool.and_false, Bool.or_self, Bool.or_false, Bool.false_or, Bool.false_eq_true, Int.reduceAdd, Bool.and_self, Bool.true_and, Bool.and_true, beq_self_eq_true, not_not_, i10_, i01_, List.length_nil, List.length_cons, true_and, and_true, false_and, and_false, kl_i, kl_a, kl_n, kl_l, tl_s, tl_n, rv_S, pd_0, pd_e, pd_r, pd_i, pd_l, b2i_01, vp8 hs, nI_clamp (show s < 2 ^ 31 by omega)]
  refine ⟨fun q => ⟨fun q2 => ?_, fun q2 => ?_⟩, fun q => ?_⟩
  · rw [if_neg (Int32.not_le.mpr q), if_neg (Int32.not_lt.mpr q2)] at hK; exact hK
  · rw [if_neg (Int32.not_le.mpr q), if_pos (Int32.not_le.mp q2)] at hK; exact hK
  · rw [if_pos (Int32.not_lt.mp q)] at hK; exact hK
def P_X6_kept : Sp0T := fun as h K => match as with
  | [.int a, .long v] => inI a 4 ∧ K (some (.long (keptE a v))) h
  | _ => False
def S_X6_kept : SpT := lift P_X6_kept
def L_X6_kept_59 : List Item := (59, .lreturn, [], nS) :: []
def L_X6_kept_58 : List Item := (58, .lconst 0, [], nS) :: L_X6_kept_59
def L_X6_kept_48 : List Item := (48, .lload_n 1, [], nS) :: (49, .lconst 0, [], nS) :: (50, .lcmp, [], nS) :: (51, .ifCond .eq 7, [58], nS) :: (54, .lconst 1, [], nS) :: (55, .goto 4, [59], nS) :: L_X6_kept_58
def L_X6_kept_46 : List Item := (46, .lload_n 1, [], nS) :: (47, .lreturn, [], nS) :: L_X6_kept_48
def L_X6_kept_42 : List Item := (42, .lload_n 1, [], nS) :: (43, .l2i, [], nS) :: (44, .i2l, [], nS) :: (45, .lreturn, [], nS) :: L_X6_kept_46
def L_X6_kept_37 : List Item := (37, .lload_n 1, [], nS) :: (38, .l2i, [], nS) :: (39, .i2s, [], nS) :: (40, .i2l, [], nS) :: (41, .lreturn, [], nS) :: L_X6_kept_42
def L_X6_kept_32 : List Item := (32, .lload_n 1, [], nS) :: (33, .l2i, [], nS) :: (34, .i2b, [], nS) :: (35, .i2l, [], nS) :: (36, .lreturn, [], nS) :: L_X6_kept_37
def L_X6_kept_0 : List Item := (0, .iload_n 0, [], nS) :: (1, .tableswitch 47 0 3 #[31, 36, 41, 45], [32, 37, 42, 46, 48], nS) :: L_X6_kept_32
def L_X6_kept : List Item := L_X6_kept_0
theorem ok_X6_kept : okB cX6_kept L_X6_kept = true := by decide +kernel
theorem lk_X6_kept (l : Launch) : LKs l RX6 1 false L_X6_kept := ⟨trivial, trivial, trivial, trivial, trivial, trivial, trivial, trivial, trivial, trivial, trivial, trivial, trivial, trivial, trivial, trivial, trivial, trivial, trivial, trivial, trivial, trivial, trivial, trivial, trivial, trivial, trivial⟩
theorem b_X6_kept_0 : atL L_X6_kept 0 = L_X6_kept_0 := rfl
theorem b_X6_kept_32 : atL L_X6_kept 32 = L_X6_kept_32 := rfl
theorem b_X6_kept_37 : atL L_X6_kept 37 = L_X6_kept_37 := rfl
theorem b_X6_kept_42 : atL L_X6_kept 42 = L_X6_kept_42 := rfl
theorem b_X6_kept_46 : atL L_X6_kept 46 = L_X6_kept_46 := rfl
theorem b_X6_kept_48 : atL L_X6_kept 48 = L_X6_kept_48 := rfl
theorem b_X6_kept_58 : atL L_X6_kept 58 = L_X6_kept_58 := rfl
theorem b_X6_kept_59 : atL L_X6_kept 59 = L_X6_kept_59 := rfl
theorem a_X6_kept_32 : afw L_X6_kept [] 32 = L_X6_kept_32 := rfl
theorem a_X6_kept_37 : afw L_X6_kept [] 37 = L_X6_kept_37 := rfl
theorem a_X6_kept_42 : afw L_X6_kept [] 42 = L_X6_kept_42 := rfl
theorem a_X6_kept_46 : afw L_X6_kept [] 46 = L_X6_kept_46 := rfl
theorem a_X6_kept_48 : afw L_X6_kept [] 48 = L_X6_kept_48 := rfl
theorem a_X6_kept_58 : afw L_X6_kept [] 58 = L_X6_kept_58 := rfl
theorem a_X6_kept_59 : afw L_X6_kept [] 59 = L_X6_kept_59 := rfl
theorem yv_X6_kept : YS yX6_kept cX6_kept 3 (some .long) 2 := ⟨⟨gT_of (List.mem_of_getElem? (i := 1025) (by decide +kernel)) rfl, gT_of (List.mem_of_getElem? (i := 74) (by decide +kernel)) rfl, ⟨by decide, by decide⟩, by decide +kernel, by decide⟩, gT_of (List.mem_of_getElem? (i := 1024) (by decide +kernel)) rfl⟩
theorem u_X6_kept_0 : L_X6_kept_0 = (0, .iload_n 0, [], nS) :: (1, .tableswitch 47 0 3 #[31, 36, 41, 45], [32, 37, 42, 46, 48], nS) :: L_X6_kept_32 := nr rfl
theorem u_X6_kept_32 : L_X6_kept_32 = (32, .lload_n 1, [], nS) :: (33, .l2i, [], nS) :: (34, .i2b, [], nS) :: (35, .i2l, [], nS) :: (36, .lreturn, [], nS) :: L_X6_kept_37 := nr rfl
theorem u_X6_kept_37 : L_X6_kept_37 = (37, .lload_n 1, [], nS) :: (38, .l2i, [], nS) :: (39, .i2s, [], nS) :: (40, .i2l, [], nS) :: (41, .lreturn, [], nS) :: L_X6_kept_42 := nr rfl
theorem u_X6_kept_42 : L_X6_kept_42 = (42, .lload_n 1, [], nS) :: (43, .l2i, [], nS) :: (44, .i2l, [], nS) :: (45, .lreturn, [], nS) :: L_X6_kept_46 := nr rfl
theorem u_X6_kept_46 : L_X6_kept_46 = (46, .lload_n 1, [], nS) :: (47, .lreturn, [], nS) :: L_X6_kept_48 := nr rfl
theorem u_X6_kept_48 : L_X6_kept_48 = (48, .lload_n 1, [], nS) :: (49, .lconst 0, [], nS) :: (50, .lcmp, [], nS) :: (51, .ifCond .eq 7, [58], nS) :: (54, .lconst 1, [], nS) :: (55, .goto 4, [59], nS) :: L_X6_kept_58 := nr rfl
theorem u_X6_kept_58 : L_X6_kept_58 = (58, .lconst 0, [], nS) :: L_X6_kept_59 := nr rfl
theorem u_X6_kept_59 : L_X6_kept_59 = (59, .lreturn, [], nS) :: [] := nr rfl
theorem z_X6_kept_0 : atL L_X6_kept 0 = L_X6_kept_0 := nr rfl
theorem z_X6_kept_32 : atL L_X6_kept 32 = L_X6_kept_32 := nr rfl
theorem z_X6_kept_37 : atL L_X6_kept 37 = L_X6_kept_37 := nr rfl
theorem z_X6_kept_42 : atL L_X6_kept 42 = L_X6_kept_42 := nr rfl
theorem z_X6_kept_46 : atL L_X6_kept 46 = L_X6_kept_46 := nr rfl
theorem z_X6_kept_48 : atL L_X6_kept 48 = L_X6_kept_48 := nr rfl
theorem z_X6_kept_58 : atL L_X6_kept 58 = L_X6_kept_58 := nr rfl
theorem z_X6_kept_59 : atL L_X6_kept 59 = L_X6_kept_59 := nr rfl
theorem j_X6_kept_32 {G : List Item → SpS → List Value → List Value → AH → Prop} {J : Nat → SpS → List Value → List Value → AH → Prop} {S : SpS} {lv st : List Value} {h : AH} : jmp G J (afw L_X6_kept [] 32) 32 S lv st h = G L_X6_kept_32 S lv st h := nr rfl
theorem j_X6_kept_37 {G : List Item → SpS → List Value → List Value → AH → Prop} {J : Nat → SpS → List Value → List Value → AH → Prop} {S : SpS} {lv st : List Value} {h : AH} : jmp G J (afw L_X6_kept [] 37) 37 S lv st h = G L_X6_kept_37 S lv st h := nr rfl
theorem j_X6_kept_42 {G : List Item → SpS → List Value → List Value → AH → Prop} {J : Nat → SpS → List Value → List Value → AH → Prop} {S : SpS} {lv st : List Value} {h : AH} : jmp G J (afw L_X6_kept [] 42) 42 S lv st h = G L_X6_kept_42 S lv st h := nr rfl
theorem j_X6_kept_46 {G : List Item → SpS → List Value → List Value → AH → Prop} {J : Nat → SpS → List Value → List Value → AH → Prop} {S : SpS} {lv st : List Value} {h : AH} : jmp G J (afw L_X6_kept [] 46) 46 S lv st h = G L_X6_kept_46 S lv st h := nr rfl
theorem j_X6_kept_48 {G : List Item → SpS → List Value → List Value → AH → Prop} {J : Nat → SpS → List Value → List Value → AH → Prop} {S : SpS} {lv st : List Value} {h : AH} : jmp G J (afw L_X6_kept [] 48) 48 S lv st h = G L_X6_kept_48 S lv st h := nr rfl
theorem j_X6_kept_58 {G : List Item → SpS → List Value → List Value → AH → Prop} {J : Nat → SpS → List Value → List Value → AH → Prop} {S : SpS} {lv st : List Value} {h : AH} : jmp G J (afw L_X6_kept [] 58) 58 S lv st h = G L_X6_kept_58 S lv st h := nr rfl
theorem j_X6_kept_59 {G : List Item → SpS → List Value → List Value → AH → Prop} {J : Nat → SpS → List Value → List Value → AH → Prop} {S : SpS} {lv st : List Value} {h : AH} : jmp G J (afw L_X6_kept [] 59) 59 S lv st h = G L_X6_kept_59 S lv st h := nr rfl
theorem e_X6_kept {a : Int32} {v : Int64} {h : AH} {K2 : Option Value → SpS → AH → Prop} : S_X6_kept SH0 [.int a, .long v] h K2 = (fun (K : Option Value → AH → Prop) => inI a 4 ∧ K (some (.long (keptE a v))) h) (fun v h' => K2 v SH0 h') := (lift_e P_X6_kept [.int a, .long v] h K2).trans (nr rfl)
set_option maxRecDepth 100000 in
set_option maxHeartbeats 4000000 in
theorem c_X6_kept (l : Launch) : Ct l yX6_kept cX6_kept 3 (some .long) 1 0 0 S_X6_kept := by
  refine Ct0_mk L_X6_kept [] (by decide +kernel) (by decide) ok_X6_kept (lk_X6_kept l) ?_
  intro as h K hP
  match as, hP with
  | [.int a, .long v], ⟨ha, hK⟩ =>
  refine ⟨by simp [slotsN, Value.category], fun J hJ => ?_⟩
  refine hJ 0 _ _ _ _ ?_
  simp only [z_X6_kept_0, u_X6_kept_0, u_X6_kept_32, u_X6_kept_37, u_X6_kept_42, u_X6_kept_46, u_X6_kept_48, u_X6_kept_58, u_X6_kept_59, j_X6_kept_32, j_X6_kept_37, j_X6_kept_42, j_X6_kept_46, j_X6_kept_48, j_X6_kept_58, j_X6_kept_59, ev_iload_n0, ev_tableswitch, ev_sw1, ev_swc, ev_lload_n1, ev_l2i, ev_i2b, ev_i2l, ev_lret, ro_l, ev_i2s, ev_lconst0, ev_lcmp, ev_if_eq, ev_lconst1, ev_goto, capO_z, kb_6, kb_7, kb_8, kb_9, kb_10, kb_12, kb_16, kb_20, kb_21, kb_30, kb_32, kb_40, kb_48, kb_50, kb_57, kb_59, kb_60, kb_63, kb_70, kb_78, kb_81, kb_82, kb_84, kb_97, kb_99, kb_100, kb_101, kb_119, kb_120, kb_122, ki_m1, ki_0, ki_1, ki_2, ki_3, ki_4, ki_5, ki_6, ki_7, ki_8, ki_9, ki_10, ki_11, ki_12, ki_13, ki_14, ki_15, ki_16, ki_17, ki_18, ki_19, ki_20, ki_21, ki_22, ki_23, ki_24, ki_25, ki_26, ki_27, ki_28, ki_29, ki_30, ki_31, ki_32, ki_33, ki_34, ki_35, ki_36, ki_37, ki_38, ki_39, ki_40, ki_41, ki_42, ki_43, ki_44, ki_45, ki_46, ki_47, ki_48, ki_49, ki_50, ki_51, ki_52, ki_53, ki_54, ki_55, ki_56, ki_57, ki_58, ki_59, ki_60, ki_61, ki_62, ki_63, ks_m2000, ks_m1006, ks_m1005, ks_m1004, ks_m1003, ks_m1002, ks_m1000, ks_200, ks_250, ks_255, ks_256, ks_320, ks_660, ks_999, ks_1000, ks_9999, ks_12345, ne_2, ne_10, t_0, t_40, t_41, t_42, t_43, t_44, t_45, t_46, t_47, t_64, t_65, t_66, t_67, t_68, t_69, t_70, t_71, t_72, t_73, t_74, t_75, t_76, t_77, t_78, t_79, t_80, t_81, t_82, r_0_0, r_0_1, r_0_2, r_0_4, r_0_5, r_0_6, r_0_7, r_40_0, r_40_5, r_44_0, r_44_1, r_64_0, r_64_1, r_64_3, r_64_4, r_64_5, r_64_6, r_64_7, r_64_8, r_64_9, r_64_12, r_64_17, r_64_18, r_64_19, r_64_20, r_64_22, r_64_23, r_64_24, r_64_25, t_1, t_14, t_27, t_2, t_15, t_28, Nat.reduceEqDiff, ne_eq, not_false_eq_true, false_implies, true_implies, implies_true, Nat.reduceAdd, Nat.reduceLeDiff, Nat.reduceLT, Nat.reduceMul, or_true, true_or, if_true, if_false, not_true_eq_false, and_self, bF, Nat.reduceBEq, Bool.false_and, Bool.and_false, Bool.or_self, Bool.or_false, Bool.false_or, Bool.false_eq_true, Int.reduceAdd, Bool.and_self, Bool.true_and, Bool.and_true, beq_self_eq_true, not_not_, i10_, i01_, List.length_nil, List.length_cons, true_and, and_true, false_and, and_false, kl_i, kl_a, kl_n, kl_l, tl_s, tl_n, rv_S, pd_0, pd_e, pd_r, pd_i, pd_l, lc_eq]
  obtain ⟨j, hj, rfl⟩ := in_of (m := 4) (by omega) ha
  unfold keptE at hK
  rcases (show j = 0 ∨ j = 1 ∨ j = 2 ∨ j = 3 ∨ j = 4 by omega) with rfl | rfl | rfl | rfl | rfl
  · exact ⟨fun _ => hK, fun z => absurd z (by decide), fun z => absurd z (by decide), fun z => absurd z (by decide), fun z => absurd rfl z.1.1.1⟩
  · exact ⟨fun z => absurd z (by decide), fun _ => hK, fun z => absurd z (by decide), fun z => absurd z (by decide), fun z => absurd rfl z.1.1.2⟩
  · exact ⟨fun z => absurd z (by decide), fun z => absurd z (by decide), fun _ => hK, fun z => absurd z (by decide), fun z => absurd rfl z.1.2⟩
  · exact ⟨fun z => absurd z (by decide), fun z => absurd z (by decide), fun z => absurd z (by decide), fun _ => hK, fun z => absurd rfl z.2⟩
  · refine ⟨fun z => absurd z (by decide), fun z => absurd z (by decide), fun z => absurd z (by decide), fun z => absurd z (by decide), fun _ => ⟨fun q => ?_, fun q => ?_⟩⟩
    · rw [if_neg (by decide), if_neg (by decide), if_neg (by decide), if_pos (by decide), if_pos q] at hK; exact hK
    · rw [if_neg (by decide), if_neg (by decide), if_neg (by decide), if_pos (by decide), if_neg q] at hK; exact hK
def P_X6_isUnder : Sp0T := fun as h K => match as with
  | [.int k, .int w] => K (some (.int (kindB k w))) h
  | _ => False
def S_X6_isUnder : SpT := lift P_X6_isUnder
def L_X6_isUnder_34 : List Item := (34, .ireturn, [], nS) :: []
def L_X6_isUnder_33 : List Item := (33, .iconst 0, [], nS) :: L_X6_isUnder_34
def L_X6_isUnder_29 : List Item := (29, .iconst 1, [], nS) :: (30, .goto 4, [34], nS) :: L_X6_isUnder_33
def L_X6_isUnder_19 : List Item := (19, .iload_n 0, [], nS) :: (20, .iconst 4, [], nS) :: (21, .if_icmp .ne 12, [33], nS) :: (24, .iload_n 1, [], nS) :: (25, .iconst 2, [], nS) :: (26, .if_icmp .ne 7, [33], nS) :: L_X6_isUnder_29
def L_X6_isUnder_0 : List Item := (0, .iload_n 1, [], nS) :: (1, .ifCond .eq 28, [29], nS) :: (4, .iload_n 0, [], nS) :: (5, .iload_n 1, [], nS) :: (6, .if_icmp .eq 23, [29], nS) :: (9, .iload_n 0, [], nS) :: (10, .iconst 3, [], nS) :: (11, .if_icmp .ne 8, [19], nS) :: (14, .iload_n 1, [], nS) :: (15, .iconst 1, [], nS) :: (16, .if_icmp .eq 13, [29], nS) :: L_X6_isUnder_19
def L_X6_isUnder : List Item := L_X6_isUnder_0
theorem ok_X6_isUnder : okB cX6_isUnder L_X6_isUnder = true := by decide +kernel
theorem lk_X6_isUnder (l : Launch) : LKs l RX6 1 false L_X6_isUnder := ⟨trivial, trivial, trivial, trivial, trivial, trivial, trivial, trivial, trivial, trivial, trivial, trivial, trivial, trivial, trivial, trivial, trivial, trivial, trivial, trivial, trivial, trivial⟩
theorem b_X6_isUnder_0 : atL L_X6_isUnder 0 = L_X6_isUnder_0 := rfl
theorem b_X6_isUnder_19 : atL L_X6_isUnder 19 = L_X6_isUnder_19 := rfl
theorem b_X6_isUnder_29 : atL L_X6_isUnder 29 = L_X6_isUnder_29 := rfl
theorem b_X6_isUnder_33 : atL L_X6_isUnder 33 = L_X6_isUnder_33 := rfl
theorem b_X6_isUnder_34 : atL L_X6_isUnder 34 = L_X6_isUnder_34 := rfl
theorem a_X6_isUnder_19 : afw L_X6_isUnder [] 19 = L_X6_isUnder_19 := rfl
theorem a_X6_isUnder_29 : afw L_X6_isUnder [] 29 = L_X6_isUnder_29 := rfl
theorem a_X6_isUnder_33 : afw L_X6_isUnder [] 33 = L_X6_isUnder_33 := rfl
theorem a_X6_isUnder_34 : afw L_X6_isUnder [] 34 = L_X6_isUnder_34 := rfl
theorem yv_X6_isUnder : YS yX6_isUnder cX6_isUnder 2 (some .boolean) 2 := ⟨⟨gT_of (List.mem_of_getElem? (i := 1052) (by decide +kernel)) rfl, gT_of (List.mem_of_getElem? (i := 74) (by decide +kernel)) rfl, ⟨by decide, by decide⟩, by decide +kernel, by decide⟩, gT_of (List.mem_of_getElem? (i := 1051) (by decide +kernel)) rfl⟩
theorem u_X6_isUnder_0 : L_X6_isUnder_0 = (0, .iload_n 1, [], nS) :: (1, .ifCond .eq 28, [29], nS) :: (4, .iload_n 0, [], nS) :: (5, .iload_n 1, [], nS) :: (6, .if_icmp .eq 23, [29], nS) :: (9, .iload_n 0, [], nS) :: (10, .iconst 3, [], nS) :: (11, .if_icmp .ne 8, [19], nS) :: (14, .iload_n 1, [], nS) :: (15, .iconst 1, [], nS) :: (16, .if_icmp .eq 13, [29], nS) :: L_X6_isUnder_19 := nr rfl
theorem u_X6_isUnder_19 : L_X6_isUnder_19 = (19, .iload_n 0, [], nS) :: (20, .iconst 4, [], nS) :: (21, .if_icmp .ne 12, [33], nS) :: (24, .iload_n 1, [], nS) :: (25, .iconst 2, [], nS) :: (26, .if_icmp .ne 7, [33], nS) :: L_X6_isUnder_29 := nr rfl
theorem u_X6_isUnder_29 : L_X6_isUnder_29 = (29, .iconst 1, [], nS) :: (30, .goto 4, [34], nS) :: L_X6_isUnder_33 := nr rfl
theorem u_X6_isUnder_33 : L_X6_isUnder_33 = (33, .iconst 0, [], nS) :: L_X6_isUnder_34 := nr rfl
theorem u_X6_isUnder_34 : L_X6_isUnder_34 = (34, .ireturn, [], nS) :: [] := nr rfl
theorem z_X6_isUnder_0 : atL L_X6_isUnder 0 = L_X6_isUnder_0 := nr rfl
theorem z_X6_isUnder_19 : atL L_X6_isUnder 19 = L_X6_isUnder_19 := nr rfl
theorem z_X6_isUnder_29 : atL L_X6_isUnder 29 = L_X6_isUnder_29 := nr rfl
theorem z_X6_isUnder_33 : atL L_X6_isUnder 33 = L_X6_isUnder_33 := nr rfl
theorem z_X6_isUnder_34 : atL L_X6_isUnder 34 = L_X6_isUnder_34 := nr rfl
theorem j_X6_isUnder_19 {G : List Item → SpS → List Value → List Value → AH → Prop} {J : Nat → SpS → List Value → List Value → AH → Prop} {S : SpS} {lv st : List Value} {h : AH} : jmp G J (afw L_X6_isUnder [] 19) 19 S lv st h = G L_X6_isUnder_19 S lv st h := nr rfl
theorem j_X6_isUnder_29 {G : List Item → SpS → List Value → List Value → AH → Prop} {J : Nat → SpS → List Value → List Value → AH → Prop} {S : SpS} {lv st : List Value} {h : AH} : jmp G J (afw L_X6_isUnder [] 29) 29 S lv st h = G L_X6_isUnder_29 S lv st h := nr rfl
theorem j_X6_isUnder_33 {G : List Item → SpS → List Value → List Value → AH → Prop} {J : Nat → SpS → List Value → List Value → AH → Prop} {S : SpS} {lv st : List Value} {h : AH} : jmp G J (afw L_X6_isUnder [] 33) 33 S lv st h = G L_X6_isUnder_33 S lv st h := nr rfl
theorem j_X6_isUnder_34 {G : List Item → SpS → List Value → List Value → AH → Prop} {J : Nat → SpS → List Value → List Value → AH → Prop} {S : SpS} {lv st : List Value} {h : AH} : jmp G J (afw L_X6_isUnder [] 34) 34 S lv st h = G L_X6_isUnder_34 S lv st h := nr rfl
theorem e_X6_isUnder {k : Int32} {w : Int32} {h : AH} {K2 : Option Value → SpS → AH → Prop} : S_X6_isUnder SH0 [.int k, .int w] h K2 = (fun (K : Option Value → AH → Prop) => K (some (.int (kindB k w))) h) (fun v h' => K2 v SH0 h') := (lift_e P_X6_isUnder [.int k, .int w] h K2).trans (nr rfl)
set_option maxRecDepth 100000 in
set_option maxHeartbeats 4000000 in
theorem c_X6_isUnder (l : Launch) : Ct l yX6_isUnder cX6_isUnder 2 (some .boolean) 1 0 0 S_X6_isUnder := by
  refine Ct0_mk L_X6_isUnder [] (by decide +kernel) (by decide) ok_X6_isUnder (lk_X6_isUnder l) ?_
  intro as h K hP
  match as, hP with
  | [.int k, .int w], hK =>
  replace hK : (fun (K : Option Value → AH → Prop) => K (some (.int (kindB k w))) h) (fun v h' => K v SH0 h') := hK
  dsimp only at hK
  refine ⟨by simp [slotsN, Value.category], fun J hJ => ?_⟩
  refine hJ 0 _ _ _ _ ?_
  simp only [z_X6_isUnder_0, u_X6_isUnder_0, u_X6_isUnder_19, u_X6_isUnder_29, u_X6_isUnder_33, u_X6_isUnder_34, j_X6_isUnder_19, j_X6_isUnder_29, j_X6_isUnder_33, j_X6_isUnder_34, ev_iload_n1, ev_if_eq, ev_iload_n0, ev_ic_eq, ev_iconst, ev_ic_ne, ev_goto, ev_iret, ro_i, ro_z, capO_z, kb_6, kb_7, kb_8, kb_9, kb_10, kb_12, kb_16, kb_20, kb_21, kb_30, kb_32, kb_40, kb_48, kb_50, kb_57, kb_59, kb_60, kb_63, kb_70, kb_78, kb_81, kb_82, kb_84, kb_97, kb_99, kb_100, kb_101, kb_119, kb_120, kb_122, ki_m1, ki_0, ki_1, ki_2, ki_3, ki_4, ki_5, ki_6, ki_7, ki_8, ki_9, ki_10, ki_11, ki_12, ki_13, ki_14, ki_15, ki_16, ki_17, ki_18, ki_19, ki_20, ki_21, ki_22, ki_23, ki_24, ki_25, ki_26, ki_27, ki_28, ki_29, ki_30, ki_31, ki_32, ki_33, ki_34, ki_35, ki_36, ki_37, ki_38, ki_39, ki_40, ki_41, ki_42, ki_43, ki_44, ki_45, ki_46, ki_47, ki_48, ki_49, ki_50, ki_51, ki_52, ki_53, ki_54, ki_55, ki_56, ki_57, ki_58, ki_59, ki_60, ki_61, ki_62, ki_63, ks_m2000, ks_m1006, ks_m1005, ks_m1004, ks_m1003, ks_m1002, ks_m1000, ks_200, ks_250, ks_255, ks_256, ks_320, ks_660, ks_999, ks_1000, ks_9999, ks_12345, ne_2, ne_10, t_0, t_40, t_41, t_42, t_43, t_44, t_45, t_46, t_47, t_64, t_65, t_66, t_67, t_68, t_69, t_70, t_71, t_72, t_73, t_74, t_75, t_76, t_77, t_78, t_79, t_80, t_81, t_82, r_0_0, r_0_1, r_0_2, r_0_4, r_0_5, r_0_6, r_0_7, r_40_0, r_40_5, r_44_0, r_44_1, r_64_0, r_64_1, r_64_3, r_64_4, r_64_5, r_64_6, r_64_7, r_64_8, r_64_9, r_64_12, r_64_17, r_64_18, r_64_19, r_64_20, r_64_22, r_64_23, r_64_24, r_64_25, t_1, t_14, t_27, t_2, t_15, t_28, Nat.reduceEqDiff, ne_eq, not_false_eq_true, false_implies, true_implies, implies_true, Nat.reduceAdd, Nat.reduceLeDiff, Nat.reduceLT, Nat.reduceMul, or_true, true_or, if_true, if_false, not_true_eq_false, and_self, bF, Nat.reduceBEq, Bool.false_and, Bool.and_false, Bool.or_self, Bool.or_false, Bool.false_or, Bool.false_eq_true, Int.reduceAdd, Bool.and_self, Bool.true_and, Bool.and_true, beq_self_eq_true, not_not_, i10_, i01_, List.length_nil, List.length_cons, true_and, and_true, false_and, and_false, kl_i, kl_a, kl_n, kl_l, tl_s, tl_n, rv_S, pd_0, pd_e, pd_r, pd_i, pd_l]
  simp only [kindB] at hK
  grind
theorem vq3_0 : vp_in 0 3 = True := eq_true (vp_in_nI (n := 0) (by omega) (by omega))
theorem vq3_1 : vp_in 1 3 = True := eq_true (vp_in_nI (n := 1) (by omega) (by omega))
theorem vq3_2 : vp_in 2 3 = True := eq_true (vp_in_nI (n := 2) (by omega) (by omega))
