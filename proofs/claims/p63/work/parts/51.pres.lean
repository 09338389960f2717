variable {nn : Nat}
/-! ===== what keeps a state in order ===== -/
theorem sumI_s (n : Nat) (f : Nat → Int) : sumI (n + 1) f = sumI n f + f n := rfl
theorem sumI_eq {f g : Nat → Int} : ∀ n, (∀ i, i < n → f i = g i) → sumI n f = sumI n g
  | 0, _ => rfl
  | n + 1, h => by rw [sumI_s, sumI_s, sumI_eq n (fun i hi => h i (by omega)), h n (by omega)]
theorem sumI_0 {f : Nat → Int} : ∀ n, (∀ i, i < n → 0 ≤ f i) → 0 ≤ sumI n f
  | 0, _ => Int.le_refl 0
  | n + 1, h => by
    have h1 := sumI_0 n (fun i hi => h i (by omega))
    have h2 := h n (by omega)
    rw [sumI_s]; omega
theorem sumI_1 {f : Nat → Int} {i : Nat} : ∀ n, i < n → (∀ i, i < n → 0 ≤ f i) → f i ≤ sumI n f
  | 0, hi, _ => absurd hi (Nat.not_lt_zero i)
  | n + 1, hi, h => by
    have h1 := sumI_0 n (fun i hi => h i (by omega))
    have h2 := h n (by omega)
    rw [sumI_s]
    by_cases z : i = n
    · rw [z]; omega
    · have := sumI_1 (f := f) (i := i) n (by omega) (fun i hi => h i (by omega))
      omega
theorem sumI_u {f : Nat → Int} {i : Nat} {v : Int} : ∀ n, i < n → sumI n (fun j => if j = i then v else f j) = sumI n f - f i + v
  | 0, hi => absurd hi (Nat.not_lt_zero i)
  | n + 1, hi => by
    rw [sumI_s, sumI_s]
    by_cases z : i = n
    · subst z
      rw [if_pos rfl, sumI_eq (g := f) i (fun j hj => if_neg (by omega))]
      omega
    · rw [sumI_u n (by omega), if_neg (by omega)]
      omega
theorem sumI_a {f g : Nat → Int} : ∀ n, sumI n (fun i => f i + g i) = sumI n f + sumI n g
  | 0 => rfl
  | n + 1 => by rw [sumI_s, sumI_s, sumI_s, sumI_a n]; omega
theorem sumI_m {f : Nat → Int} (e : Int) : ∀ n, sumI n (fun i => e * f i) = e * sumI n f
  | 0 => (Int.mul_zero e).symm
  | n + 1 => by rw [sumI_s, sumI_s, sumI_m e n, Int.mul_add]
theorem ti_add {a b : Int32} (h0 : -2147483648 ≤ a.toInt + b.toInt) (h : a.toInt + b.toInt < 2147483648) : (a + b).toInt = a.toInt + b.toInt := by
  rw [Int32.toInt_add, Int.bmod_eq_of_le (by omega) (by omega)]
theorem ti_sub {a b : Int32} (h0 : -2147483648 ≤ a.toInt - b.toInt) (h : a.toInt - b.toInt < 2147483648) : (a - b).toInt = a.toInt - b.toInt := by
  rw [Int32.toInt_sub, Int.bmod_eq_of_le (by omega) (by omega)]
theorem ti_mul {a b : Int32} (h0 : -2147483648 ≤ a.toInt * b.toInt) (h : a.toInt * b.toInt < 2147483648) : (a * b).toInt = a.toInt * b.toInt := by
  rw [Int32.toInt_mul, Int.bmod_eq_of_le (by omega) (by omega)]
theorem ti_div {a b : Int32} (h0 : 0 ≤ a.toInt) (h1 : 0 < b.toInt) : (a / b).toInt = a.toInt / b.toInt ∧ 0 ≤ a.toInt / b.toInt ∧ a.toInt / b.toInt ≤ a.toInt := by
  have h2 : 0 ≤ a.toInt / b.toInt := Int.ediv_nonneg h0 (by omega)
  have h3 : a.toInt / b.toInt ≤ a.toInt := Int.ediv_le_self _ h0
  have := Int32.toInt_lt a
  refine ⟨?_, h2, h3⟩
  rw [Int32.toInt_div, Int.tdiv_eq_ediv_of_nonneg h0, Int.bmod_eq_of_le (by omega) (by omega)]
theorem le_ti {a b : Int32} : a ≤ b ↔ a.toInt ≤ b.toInt := Int32.le_iff_toInt_le
theorem lt_ti {a b : Int32} : a < b ↔ a.toInt < b.toInt := Int32.lt_iff_toInt_lt
theorem ti_0 : (0 : Int32).toInt = 0 := by decide
theorem ti_1 : (1 : Int32).toInt = 1 := by decide
theorem ti_2 : (2 : Int32).toInt = 2 := by decide
theorem ti_9 : (9 : Int32).toInt = 9 := by decide
theorem ti_10 : (10 : Int32).toInt = 10 := by decide
theorem ti_60 : (60 : Int32).toInt = 60 := by decide
theorem ti_9999 : (9999 : Int32).toInt = 9999 := by decide
theorem bnd_iff {T : Nat} {E : ES} : bndE T E ↔ (0 ≤ (eS E 0).toInt ∧ (eS E 0).toInt ≤ 9999) ∧ (∀ i, i < cnt E → (0 ≤ (eF E i 1).toInt ∧ (eF E i 1).toInt ≤ 9) ∧ 0 ≤ (eF E i 4).toInt) ∧ totE E ≤ T := by
  unfold bndE inI
  simp only [le_ti, ti_0, ti_9, ti_9999]
theorem bnd_h {T : Nat} {E : ES} (hb : bndE T E) (hT : T ≤ 1000000000) {i : Nat} (hi : i < cnt E) : 0 ≤ (eF E i 4).toInt ∧ (eF E i 4).toInt + (eS E 0).toInt ≤ T := by
  obtain ⟨⟨h1, h2⟩, h3, h4⟩ := bnd_iff.mp hb
  have := sumI_1 (f := fun i => (eF E i 4).toInt) (cnt E) hi (fun i hi => (h3 i hi).2)
  unfold totE at h4
  refine ⟨(h3 i hi).2, ?_⟩
  omega
/-- one field of one HEIR, of those that no bound speaks of -/
theorem bnd_sF {T : Nat} {E : ES} (hb : bndE T E) {i k : Nat} {v : Int32} (h1 : k ≠ 1) (h4 : k ≠ 4) : bndE T (sF E i k v) := by
  unfold bndE totE at *
  rw [cnt_sF]
  refine ⟨hb.1, fun j hj => ?_, ?_⟩
  · rw [eF_sF, eF_sF, if_neg (by omega), if_neg (by omega)]; exact hb.2.1 j hj
  · rw [sumI_eq (g := fun i => (eF E i 4).toInt) (cnt E) (fun j hj => by rw [eF_sF, if_neg (by omega)])]
    exact hb.2.2
theorem bnd_sS {T : Nat} {E : ES} (hb : bndE T E) {k : Nat} {v : Int32} (h0 : k ≠ 0) (h4 : k ≠ 4) : bndE T (sS E k v) := by
  unfold bndE totE at *
  rw [cnt_sS _ _ _ (Ne.symm h4), eS_sS, if_neg (Ne.symm h0)]
  exact hb
theorem bnd_le {T T' : Nat} {E : ES} (hb : bndE T E) (h : T ≤ T') : bndE T' E := ⟨hb.1, hb.2.1, Int.le_trans hb.2.2 (by omega)⟩
theorem tot_sF4 {E : ES} {i : Nat} {v : Int32} (hi : i < cnt E) : totE (sF E i 4 v) = totE E - (eF E i 4).toInt + v.toInt := by
  unfold totE
  rw [cnt_sF, eS_sF, sumI_eq (g := fun j => if j = i then v.toInt else (eF E j 4).toInt) (cnt E) (fun j hj => by
    rw [eF_sF]
    by_cases z : j = i
    · rw [if_pos ⟨z, rfl⟩, if_pos z]
    · rw [if_neg (fun y => z y.1), if_neg z]), sumI_u (cnt E) hi]
  omega
theorem tot_sS0 {E : ES} {v : Int32} : totE (sS E 0 v) = totE E - (eS E 0).toInt + v.toInt := by
  unfold totE
  rw [cnt_sS _ _ _ (by omega), eS_sS, if_pos rfl]
  show v.toInt + sumI (cnt E) (fun i => (eF E i 4).toInt) = _
  omega
/-- has and the store of an estate changed: what is to be seen -/
theorem bnd_has {T : Nat} {E : ES} {i : Nat} {v : Int32} (hb : bndE T E) (hi : i < cnt E) (hv : 0 ≤ v.toInt) (ht : totE (sF E i 4 v) ≤ T) : bndE T (sF E i 4 v) := by
  refine ⟨hb.1, fun j hj => ?_, ht⟩
  rw [eF_sF, eF_sF, if_neg (by omega)]
  refine ⟨(hb.2.1 j hj).1, ?_⟩
  by_cases z : j = i
  · rw [if_pos ⟨z, rfl⟩, le_ti, ti_0]; exact hv
  · rw [if_neg (fun y => z y.1)]; exact (hb.2.1 j hj).2
theorem bnd_sto {T : Nat} {E : ES} {v : Int32} (hb : bndE T E) (h0 : 0 ≤ v.toInt) (h1 : v.toInt ≤ 9999) (ht : totE (sS E 0 v) ≤ T) : bndE T (sS E 0 v) := by
  refine ⟨?_, ?_, ht⟩
  · rw [eS_sS, if_pos rfl, le_ti, le_ti, ti_0, ti_9999]; exact ⟨h0, h1⟩
  · rw [cnt_sS _ _ _ (by omega)]; exact hb.2.1
theorem areN_b (E : ES) (w : Int32) (n : Nat) : ∃ m : Nat, m ≤ n ∧ forN n (fun i a => if eF E i 6 = w then a + 1 else a) (0 : Int32) = nI m := by
  induction n with
  | zero => exact ⟨0, Nat.le_refl 0, rfl⟩
  | succ n ih =>
    obtain ⟨m, h1, h2⟩ := ih
    rw [forN_s, h2]
    by_cases q : eF E n 6 = w
    · exact ⟨m + 1, by omega, by rw [if_pos q]; exact nI_1 m⟩
    · exact ⟨m, by omega, by rw [if_neg q]⟩
theorem tenU_b {x : Int32} (h0 : 0 ≤ x.toInt) (h1 : x.toInt ≤ 1000000000) : 0 ≤ (tenU x).toInt ∧ (tenU x).toInt ≤ 1000000009 := by
  have e := ti_add (a := x) (b := 9) (by rw [ti_9]; omega) (by rw [ti_9]; omega)
  rw [ti_9] at e
  obtain ⟨h2, h3, h4⟩ := ti_div (a := x + 9) (b := 10) (by omega) (by decide)
  unfold tenU
  rw [h2]; omega
theorem halfU_b {x : Int32} (h0 : 0 ≤ x.toInt) (h1 : x.toInt ≤ 1000000000) : 0 ≤ (halfU x).toInt ∧ (halfU x).toInt ≤ 1000000001 := by
  have e := ti_add (a := x) (b := 1) (by rw [ti_1]; omega) (by rw [ti_1]; omega)
  rw [ti_1] at e
  obtain ⟨h2, h3, h4⟩ := ti_div (a := x + 1) (b := 2) (by omega) (by decide)
  unfold halfU
  rw [h2]; omega
theorem wish_b {k a x y : Int32} (ha : 0 ≤ a.toInt ∧ a.toInt ≤ 9) (h0 : 0 ≤ x.toInt) (h1 : x.toInt ≤ 1000000000) : 0 ≤ (wish k a x y).toInt := by
  have t := tenU_b h0 h1
  have f := halfU_b h0 h1
  unfold wish
  split
  · exact f.1
  · split
    · exact ha.1
    · split
      · rw [ti_add (by omega) (by omega)]; omega
      · split
        · split
          · exact ha.1
          · decide
        · split
          · rw [ti_add (by rw [ti_1]; omega) (by rw [ti_1]; omega), ti_1]; omega
          · exact t.1
theorem use_b {k a x y : Int32} (ha : 0 ≤ a.toInt ∧ a.toInt ≤ 9) (h0 : 0 ≤ x.toInt) (h1 : x.toInt ≤ 1000000000) : 0 ≤ (useI k a x y).toInt ∧ (useI k a x y).toInt ≤ x.toInt := by
  have w := wish_b (k := k) (y := y) ha h0 h1
  unfold useI
  by_cases q : wish k a x y < x
  · rw [if_pos q]; rw [lt_ti] at q; omega
  · rw [if_neg q]; omega
theorem port_b {E : ES} (h0 : 0 ≤ (eS E 0).toInt) (h1 : (eS E 0).toInt ≤ 9999) : 0 ≤ (portE E).toInt ∧ (portE E).toInt ≤ (eS E 0).toInt := by
  have d : 0 ≤ (dueE E).toInt := by
    unfold dueE
    split
    · exact (tenU_b h0 (by omega)).1
    · split
      · split
        · rename_i q
          obtain ⟨h2, h3, h4⟩ := ti_div (a := eS E 0) (b := areN E 0) h0 (by rw [lt_ti, ti_0] at q; exact q)
          rw [h2]; exact h3
        · exact h0
      · decide
  unfold portE
  by_cases q : eS E 0 < dueE E
  · rw [if_pos q]; omega
  · rw [if_neg q]
    rw [lt_ti] at q
    omega
theorem forN_P {σ : Type} {P : σ → Prop} {f : Nat → σ → σ} {s : σ} (h0 : P s) : ∀ n, (∀ i s, i < n → P s → P (f i s)) → P (forN n f s)
  | 0, _ => h0
  | n + 1, h => h n _ (by omega) (forN_P h0 n (fun i s hi => h i s (by omega)))
theorem bnd_comeS {T n i : Nat} {E : ES} (hT : T ≤ 1000000000) (hb : bndE T E) (hi : i < cnt E) : bndE T (comeS i E) := by
  unfold comeS
  by_cases q : eF E i 6 = 0 ∧ 21 ≤ eS E 1 - eF E i 3
  · rw [if_pos q]
    obtain ⟨⟨h1, h2⟩, h3, h4⟩ := bnd_iff.mp hb
    have p := port_b (E := E) h1 h2
    have hh := bnd_h hb hT hi
    have e1 := ti_add (a := eF E i 4) (b := portE E) (by omega) (by omega)
    have e2 := ti_sub (a := eS E 0) (b := portE E) (by omega) (by omega)
    have b1 : bndE T (sF E i 6 1) := bnd_sF hb (by omega) (by omega)
    have c1 : cnt (sF E i 6 1) = cnt E := cnt_sF _ _ _ _
    have t1 : totE (sF E i 6 1) = totE E := by
      unfold totE
      rw [cnt_sF, eS_sF, sumI_eq (g := fun i => (eF E i 4).toInt) (cnt E) (fun j hj => by rw [eF_sF, if_neg (by omega)])]
    have t2 : totE (sS (sF (sF E i 6 1) i 4 (eF E i 4 + portE E)) 0 (eS E 0 - portE E)) = totE E := by
      rw [tot_sS0, tot_sF4 (by rw [c1]; exact hi), t1, e2, e1, eS_sF, eS_sF, eF_sF, if_neg (by omega)]
      omega
    have b3 : bndE (T + 9999) (sF (sF E i 6 1) i 4 (eF E i 4 + portE E)) := bnd_has (bnd_le b1 (by omega)) (by rw [c1]; exact hi) (by rw [e1]; omega) (by
      rw [tot_sF4 (by rw [c1]; exact hi), t1, e1, eF_sF, if_neg (by omega)]; omega)
    have b4 := bnd_sto (v := eS E 0 - portE E) b3 (by rw [e2]; omega) (by rw [e2]; omega) (by rw [t2]; omega)
    exact ⟨b4.1, b4.2.1, by rw [t2]; exact h4⟩
  · rw [if_neg q]; exact hb
theorem bnd_comeE {T : Nat} {E : ES} (hT : T ≤ 1000000000) (hb : bndE T E) : bndE T (comeE E) :=
  (forN_P (P := fun E' => bndE T E' ∧ cnt E' = cnt E) ⟨hb, rfl⟩ (cnt E) (fun i E' hi h => ⟨bnd_comeS (n := 0) hT h.1 (by rw [h.2]; exact hi), by rw [sameE_cnt (same_comeS i E')]; exact h.2⟩)).1
theorem bnd_drinkS {T i : Nat} {p : ES × Int32} (hT : T ≤ 1000000000) (hb : bndE T p.1) (hi : i < cnt p.1) : bndE T (drinkS i p).1 := by
  unfold drinkS
  by_cases q : eF p.1 i 6 = 1
  · rw [if_pos q]
    obtain ⟨⟨h1, h2⟩, h3, h4⟩ := bnd_iff.mp hb
    have hh := bnd_h hb hT hi
    have u : 0 ≤ (useF p.1 i).toInt ∧ (useF p.1 i).toInt ≤ (eF p.1 i 4).toInt := use_b (h3 i hi).1 hh.1 (by omega)
    have e1 := ti_sub (a := eF p.1 i 4) (b := useF p.1 i) (by omega) (by omega)
    refine bnd_sF (bnd_has hb hi (by rw [e1]; omega) ?_) (by omega) (by omega)
    rw [tot_sF4 hi, e1]; omega
  · rw [if_neg q]; exact hb
theorem bnd_drinkE {T : Nat} {E : ES} (hT : T ≤ 1000000000) (hb : bndE T E) : bndE T (drinkE E).1 :=
  (forN_P (P := fun p : ES × Int32 => bndE T p.1 ∧ cnt p.1 = cnt E) (s := (E, 0)) ⟨hb, rfl⟩ (cnt E) (fun i p hi h => ⟨bnd_drinkS hT h.1 (by rw [h.2]; exact hi), by rw [sameE_cnt (same_drinkS i p)]; exact h.2⟩)).1
abbrev getP (E : ES) (d i : Nat) : Prop := eF E i 2 = nI d ∧ ¬ eF E i 6 = 2
theorem giveN_f (E : ES) (d : Nat) (e : Int32) : ∀ n, (∀ k, eS (forN n (giveS d e) E) k = eS E k) ∧ (∀ t, eJ (forN n (giveS d e) E) t = eJ E t) ∧ (∀ i k, k ≠ 4 → eF (forN n (giveS d e) E) i k = eF E i k) ∧ ∀ i, eF (forN n (giveS d e) E) i 4 = if i < n ∧ getP E d i then eF E i 4 + e else eF E i 4
  | 0 => ⟨fun _ => rfl, fun _ => rfl, fun _ _ _ => rfl, fun i => by rw [if_neg (by omega)]; rfl⟩
  | n + 1 => by
    obtain ⟨h1, h2, h3, h4⟩ := giveN_f E d e n
    have gs : forN (n + 1) (giveS d e) E = if getP (forN n (giveS d e) E) d n then sF (forN n (giveS d e) E) n 4 (eF (forN n (giveS d e) E) n 4 + e) else forN n (giveS d e) E := rfl
    rw [gs]
    have hg : getP (forN n (giveS d e) E) d n ↔ getP E d n := by unfold getP; rw [h3 n 2 (by omega), h3 n 6 (by omega)]
    by_cases q : getP E d n
    · rw [if_pos (hg.mpr q)]
      refine ⟨fun k => by rw [eS_sF]; exact h1 k, fun t => by rw [eJ_sF]; exact h2 t, fun i k hk => by rw [eF_sF, if_neg (by omega)]; exact h3 i k hk, fun i => ?_⟩
      rw [eF_sF]
      by_cases z : i = n
      · subst z
        rw [if_pos ⟨rfl, rfl⟩, if_pos ⟨by omega, q⟩, h4, if_neg (by omega)]
      · rw [if_neg (fun y => z y.1), h4]
        by_cases y : i < n ∧ getP E d i
        · rw [if_pos y, if_pos ⟨by omega, y.2⟩]
        · rw [if_neg y, if_neg (fun x => y ⟨by omega, x.2⟩)]
    · rw [if_neg (fun z => q (hg.mp z))]
      refine ⟨h1, h2, h3, fun i => ?_⟩
      rw [h4]
      by_cases y : i < n ∧ getP E d i
      · rw [if_pos y, if_pos ⟨by omega, y.2⟩]
      · rw [if_neg y, if_neg (fun x => y ⟨by
          by_cases z : i = n
          · rw [z] at x; exact absurd x.2 q
          · omega, x.2⟩)]
def getI (E : ES) (d i : Nat) : Int := if getP E d i then 1 else 0
theorem live_b (E : ES) (d : Nat) : ∀ n, n ≤ 10 → ∃ m : Nat, m ≤ n ∧ forN n (fun i a => if eF E i 2 = nI d ∧ ¬ eF E i 6 = 2 then a + 1 else a) (0 : Int32) = nI m ∧ sumI n (getI E d) = m
  | 0, _ => ⟨0, Nat.le_refl 0, rfl, rfl⟩
  | n + 1, hn => by
    obtain ⟨m, h1, h2, h3⟩ := live_b E d n (by omega)
    rw [forN_s, h2, sumI_s, h3]
    unfold getI
    by_cases q : getP E d n
    · exact ⟨m + 1, by omega, by rw [if_pos q]; exact nI_1 m, by rw [if_pos q]; omega⟩
    · exact ⟨m, by omega, by rw [if_neg q], by rw [if_neg q]; omega⟩
theorem bnd_beqE {T d : Nat} {E : ES} (hT : T ≤ 1000000000) (hn : cnt E ≤ 10) (hb : bndE T E) (hd : d < cnt E) (h6 : eF E d 6 = 2) : bndE T (beqE E d) := by
  obtain ⟨⟨h1, h2⟩, h3, h4⟩ := bnd_iff.mp hb
  obtain ⟨m, m1, m2, m3⟩ := live_b E d (cnt E) hn
  have hl : liveN E (nI d) = nI m := m2
  have hh := bnd_h hb hT hd
  have ml : (nI m).toInt = m := nI_toInt (by omega)
  have e : 0 ≤ (eachE E d).toInt ∧ (eachE E d).toInt * m ≤ (eF E d 4).toInt ∧ (eachE E d).toInt ≤ (eF E d 4).toInt := by
    unfold eachE
    rw [hl]
    by_cases q : 0 < nI m
    · rw [if_pos q]
      rw [lt_ti, ti_0, ml] at q
      obtain ⟨q1, q2, q3⟩ := ti_div (a := eF E d 4) (b := nI m) hh.1 (by rw [ml]; exact q)
      rw [q1, ml] at *
      exact ⟨q2, Int.ediv_mul_le _ (by omega), q3⟩
    · rw [if_neg q, ti_0]
      exact ⟨Int.le_refl 0, by rw [Int.zero_mul]; exact hh.1, hh.1⟩
  obtain ⟨e1, e2, e3⟩ := e
  have emm : 0 ≤ (eachE E d).toInt * m := Int.mul_nonneg e1 (by omega)
  obtain ⟨g1, g2, g3_, g4⟩ := giveN_f E d (eachE E d) (cnt E)
  have gc : cnt (forN (cnt E) (giveS d (eachE E d)) E) = cnt E := congrArg Int32.toNatClampNeg (g1 4)
  generalize hE' : forN (cnt E) (giveS d (eachE E d)) E = E' at *
  have gd : eF E' d 4 = eF E d 4 := by rw [g4, if_neg (fun z => z.2.2 h6)]
  have gi : ∀ i, i < cnt E → (eF E' i 4).toInt = (eF E i 4).toInt + (eachE E d).toInt * getI E d i := by
    intro i hi
    rw [g4]
    unfold getI
    have hhi := bnd_h hb hT hi
    by_cases q : getP E d i
    · rw [if_pos ⟨hi, q⟩, if_pos q, ti_add (by omega) (by omega)]; omega
    · rw [if_neg (fun z => q z.2), if_neg q]; omega
  have tE' : totE E' = totE E + (eachE E d).toInt * m := by
    unfold totE
    rw [gc, g1, sumI_eq (cnt E) gi, sumI_a, sumI_m, m3]
    omega
  have hE0 : ∀ i, i < cnt E → 0 ≤ (eF E' i 4).toInt := by
    intro i hi
    rw [gi i hi]
    have := (h3 i hi).2
    unfold getI
    split <;> omega
  have bE' : bndE (T + T) E' := by
    refine bnd_iff.mpr ⟨by rw [g1]; exact ⟨h1, h2⟩, fun i hi => ?_, ?_⟩
    · rw [gc] at hi
      rw [g3_ i 1 (by omega)]
      exact ⟨(h3 i hi).1, hE0 i hi⟩
    · rw [tE']; omega
  have es : (eF E d 4 - eachE E d * liveN E (nI d)).toInt = (eF E d 4).toInt - (eachE E d).toInt * m := by
    rw [hl]
    have em : (eachE E d * nI m).toInt = (eachE E d).toInt * m := by
      rw [ti_mul (by rw [ml]; omega) (by rw [ml]; omega), ml]
    rw [ti_sub (by omega) (by omega), em]
  have ea : (eS E 0 + (eF E d 4 - eachE E d * liveN E (nI d))).toInt = (eS E 0).toInt + ((eF E d 4).toInt - (eachE E d).toInt * m) := by
    rw [ti_add (by omega) (by omega), es]
  have ec : 0 ≤ (capS (eS E 0 + (eF E d 4 - eachE E d * liveN E (nI d)))).toInt ∧ (capS (eS E 0 + (eF E d 4 - eachE E d * liveN E (nI d)))).toInt ≤ 9999 ∧ (capS (eS E 0 + (eF E d 4 - eachE E d * liveN E (nI d)))).toInt ≤ (eS E 0).toInt + ((eF E d 4).toInt - (eachE E d).toInt * m) := by
    unfold capS
    by_cases q : eS E 0 + (eF E d 4 - eachE E d * liveN E (nI d)) < 9999
    · rw [if_pos q]
      rw [lt_ti, ti_9999] at q
      omega
    · rw [if_neg q]
      rw [lt_ti, ti_9999] at q
      rw [ti_9999]
      omega
  unfold beqE
  rw [hE']
  have b2 : bndE (T + T) (sF E' d 4 0) := bnd_has bE' (by rw [gc]; exact hd) (by decide) (by rw [tot_sF4 (by rw [gc]; exact hd), tE', gd, ti_0]; omega)
  have t3 : totE (sS (sF E' d 4 0) 0 (capS (eS E 0 + (eF E d 4 - eachE E d * liveN E (nI d))))) ≤ totE E := by
    rw [tot_sS0, tot_sF4 (by rw [gc]; exact hd), tE', gd, ti_0, eS_sF, g1]
    omega
  have b3 := bnd_sto (v := capS (eS E 0 + (eF E d 4 - eachE E d * liveN E (nI d)))) b2 ec.1 ec.2.1 (by omega)
  exact ⟨b3.1, b3.2.1, by omega⟩
theorem bnd_dieS {T i : Nat} {E : ES} (hT : T ≤ 1000000000) (hn : cnt E ≤ 10) (hb : bndE T E) (hi : i < cnt E) : bndE T (dieS i E) := by
  unfold dieS
  by_cases q : eF E i 6 = 1 ∧ 70 ≤ eS E 1 - eF E i 3
  · rw [if_pos q]
    exact bnd_beqE hT hn (bnd_sF hb (by omega) (by omega)) hi (by rw [eF_sF, if_pos ⟨rfl, rfl⟩])
  · rw [if_neg q]; exact hb
theorem bnd_dieE {T : Nat} {E : ES} (hT : T ≤ 1000000000) (hn : cnt E ≤ 10) (hb : bndE T E) : bndE T (dieE E) :=
  (forN_P (P := fun E' => bndE T E' ∧ cnt E' = cnt E) ⟨hb, rfl⟩ (cnt E) (fun i E' hi h => ⟨bnd_dieS hT (by rw [h.2]; exact hn) h.1 (by rw [h.2]; exact hi), by rw [sameE_cnt (same_dieS i E')]; exact h.2⟩)).1
theorem bnd_passE {T : Nat} {E : ES} (hT : T ≤ 1000000000) (hn : cnt E ≤ 10) (hb : bndE T E) : bndE T (passE E).1 := by
  have b1 := bnd_comeE hT hb
  have b2 := bnd_drinkE hT b1
  have c2 : cnt (drinkE (comeE E)).1 = cnt E := (sameE_cnt (same_drinkN _ (comeE E, 0))).trans (sameE_cnt (same_for same_comeS _ E))
  have b3 := bnd_dieE hT (by rw [c2]; exact hn) b2
  show bndE T (tickE (dieE (drinkE (comeE E)).1))
  unfold tickE
  split
  · exact bnd_sS b3 (by omega) (by omega)
  · exact b3
theorem okT_same {E E' : ES} (h : sameE E E') (ho : okT E) : okT E' := by
  unfold okT
  rw [sameE_cnt h]
  intro i hi
  rw [h.2.2.2.2 i 2 (by omega)]
  exact ho i hi
theorem good_passE {T : Nat} {E : ES} (hT : T ≤ 1000000000) (hg : goodE T E) : goodE T (passE E).1 := ⟨sameE_ok (same_passE E) hg.1, okT_same (same_passE E) hg.2.1, bnd_passE hT hg.1.2.1 hg.2.2⟩
theorem good_passN {T : Nat} {E : ES} (hT : T ≤ 1000000000) (hg : goodE T E) (n : Nat) : goodE T (passN n E) := forN_ind (P := fun E' => goodE T E') hg (fun _ _ h => good_passE hT h) n
theorem good_le {T T' : Nat} {E : ES} (hg : goodE T E) (h : T ≤ T') : goodE T' E := ⟨hg.1, hg.2.1, bnd_le hg.2.2 h⟩
