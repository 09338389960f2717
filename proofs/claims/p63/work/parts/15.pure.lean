variable {nn : Nat}
/-! ===== plain mathematics: an estate as numbers; what each question answers ===== -/
def forN {σ : Type} (n : Nat) (f : Nat → σ → σ) (s : σ) : σ := match n with
  | 0 => s
  | n + 1 => f n (forN n f s)
theorem forN_0 {σ : Type} (f : Nat → σ → σ) (s : σ) : forN 0 f s = s := rfl
theorem forN_s {σ : Type} (n : Nat) (f : Nat → σ → σ) (s : σ) : forN (n + 1) f s = f n (forN n f s) := rfl
theorem dn {P : Nat → Prop} (n : Nat) (hn : P n) (hs : ∀ i, i < n → P (i + 1) → P i) : P 0 := by
  have key : ∀ k, k ≤ n → P (n - k) := by
    intro k
    induction k with
    | zero => intro _; exact hn
    | succ k ih =>
      intro hk
      have h1 := ih (by omega)
      exact hs (n - (k + 1)) (by omega) (by rw [show n - (k + 1) + 1 = n - k by omega]; exact h1)
  have := key n (Nat.le_refl n)
  rwa [Nat.sub_self] at this
theorem lpF {n i : Nat} (hi : i < n) (hn : n < 2147483648) : (nI n ≤ nI i) = False := eq_false (nI_ge hi hn)
theorem lpT {n : Nat} (hn : n < 2147483648) : (nI n ≤ nI n) = True := eq_true (nI_le (Nat.le_refl n) hn)
/-- an estate: 0 store, 1 year, 2 rule, 3 seed, 4 how many; the joys; of an heir: 0 kind, 1 a, 2 from, 3 born, 4 has, 5 used, 6 how -/
abbrev ES : Type := (Nat → Int32) × (Nat → Int32) × (Nat → Nat → Int32)
def eS (E : ES) (k : Nat) : Int32 := E.1 k
def eJ (E : ES) (t : Nat) : Int32 := E.2.1 t
def eF (E : ES) (i k : Nat) : Int32 := E.2.2 i k
def cnt (E : ES) : Nat := (eS E 4).toNatClampNeg
def okE (E : ES) : Prop := eS E 4 = nI (cnt E) ∧ cnt E ≤ 10 ∧ (eS E 2 = 0 ∨ eS E 2 = 1 ∨ eS E 2 = 2)
def sS (E : ES) (k : Nat) (v : Int32) : ES := (fun k' => if k' = k then v else E.1 k', E.2.1, E.2.2)
def sJ (E : ES) (t : Nat) (v : Int32) : ES := (E.1, fun t' => if t' = t then v else E.2.1 t', E.2.2)
def sF (E : ES) (i k : Nat) (v : Int32) : ES := (E.1, E.2.1, fun i' k' => if i' = i ∧ k' = k then v else E.2.2 i' k')
theorem eS_sS (E : ES) (k : Nat) (v : Int32) (k' : Nat) : eS (sS E k v) k' = if k' = k then v else eS E k' := rfl
theorem eS_sF (E : ES) (i k : Nat) (v : Int32) (k' : Nat) : eS (sF E i k v) k' = eS E k' := rfl
theorem eS_sJ (E : ES) (t : Nat) (v : Int32) (k' : Nat) : eS (sJ E t v) k' = eS E k' := rfl
theorem eJ_sS (E : ES) (k : Nat) (v : Int32) (t : Nat) : eJ (sS E k v) t = eJ E t := rfl
theorem eJ_sF (E : ES) (i k : Nat) (v : Int32) (t : Nat) : eJ (sF E i k v) t = eJ E t := rfl
theorem eJ_sJ (E : ES) (t : Nat) (v : Int32) (t' : Nat) : eJ (sJ E t v) t' = if t' = t then v else eJ E t' := rfl
theorem eF_sS (E : ES) (k : Nat) (v : Int32) (i k' : Nat) : eF (sS E k v) i k' = eF E i k' := rfl
theorem eF_sJ (E : ES) (t : Nat) (v : Int32) (i k' : Nat) : eF (sJ E t v) i k' = eF E i k' := rfl
theorem eF_sF (E : ES) (i k : Nat) (v : Int32) (i' k' : Nat) : eF (sF E i k v) i' k' = if i' = i ∧ k' = k then v else eF E i' k' := rfl
theorem cnt_sF (E : ES) (i k : Nat) (v : Int32) : cnt (sF E i k v) = cnt E := rfl
theorem cnt_sJ (E : ES) (t : Nat) (v : Int32) : cnt (sJ E t v) = cnt E := rfl
theorem cnt_sS (E : ES) (k : Nat) (v : Int32) (hk : 4 ≠ k) : cnt (sS E k v) = cnt E := by
  unfold cnt
  rw [eS_sS, if_neg hk]
/-! the view of an estate of x at cell b -/
def est (h : AH) (b : Nat) : ES := (fun k => if k < 5 then gI h b k else 0, fun t => if t < 8 then gI h (b + 1) t else 0, fun i k => if i < (gI h b 4).toNatClampNeg ∧ k < 7 then gI h (b + 3 + i) k else 0)
theorem est_s {h : AH} {b k : Nat} (hk : k < 5) : eS (est h b) k = gI h b k := if_pos hk
theorem est_j {h : AH} {b t : Nat} (ht : t < 8) : eJ (est h b) t = gI h (b + 1) t := if_pos ht
theorem est_n (h : AH) (b : Nat) : cnt (est h b) = (gI h b 4).toNatClampNeg := by unfold cnt; rw [est_s (by omega)]
theorem est_f {h : AH} {b i k : Nat} (hi : i < cnt (est h b)) (hk : k < 7) : eF (est h b) i k = gI h (b + 3 + i) k := if_pos ⟨by rw [← est_n]; exact hi, hk⟩
theorem est_c {h : AH} {b : Nat} (ho : okE (est h b)) : gI h b 4 = nI (cnt (est h b)) := by rw [← ho.1, est_s (by omega)]
theorem gI_pI (h : AH) (c k : Nat) (v : Int32) (c' k' : Nat) : gI (pI h c k v) c' k' = if c' = c ∧ k' = k then v else gI h c' k' := rfl
theorem gJ_pI (h : AH) (c k : Nat) (v : Int32) (c' k' : Nat) : gJ (pI h c k v) c' k' = gJ h c' k' := rfl
theorem gI_pJ (h : AH) (c k : Nat) (v : Int64) (c' k' : Nat) : gI (pJ h c k v) c' k' = gI h c' k' := rfl
theorem gJ_pJ (h : AH) (c k : Nat) (v : Int64) (c' k' : Nat) : gJ (pJ h c k v) c' k' = if c' = c ∧ k' = k then v else gJ h c' k' := rfl
theorem est_ext {E E' : ES} (h1 : ∀ k, eS E k = eS E' k) (h2 : ∀ t, eJ E t = eJ E' t) (h3 : ∀ i k, eF E i k = eF E' i k) : E = E' := by
  obtain ⟨a, b, c⟩ := E
  obtain ⟨a', b', c'⟩ := E'
  have e1 : a = a' := funext h1
  have e2 : b = b' := funext h2
  have e3 : c = c' := funext fun i => funext (h3 i)
  rw [e1, e2, e3]
theorem est_pS {h : AH} {b k : Nat} {v : Int32} (hk : k < 4) : est (pI h b k v) b = sS (est h b) k v := by
  have e4 : gI (pI h b k v) b 4 = gI h b 4 := by rw [gI_pI, if_neg (by omega)]
  refine est_ext (fun k' => ?_) (fun t => ?_) (fun i k' => ?_)
  · rw [eS_sS]
    show (if k' < 5 then gI (pI h b k v) b k' else 0) = if k' = k then v else (if k' < 5 then gI h b k' else 0)
    rw [gI_pI]
    by_cases e : k' = k
    · subst e; simp; omega
    · simp [e]
  · show (if t < 8 then gI (pI h b k v) (b + 1) t else 0) = if t < 8 then gI h (b + 1) t else 0
    rw [gI_pI, if_neg (show ¬ (b + 1 = b ∧ t = k) by omega)]
  · show (if i < (gI (pI h b k v) b 4).toNatClampNeg ∧ k' < 7 then gI (pI h b k v) (b + 3 + i) k' else 0) = if i < (gI h b 4).toNatClampNeg ∧ k' < 7 then gI h (b + 3 + i) k' else 0
    rw [e4, gI_pI, if_neg (show ¬ (b + 3 + i = b ∧ k' = k) by omega)]
theorem est_pJ {h : AH} {b t : Nat} {v : Int32} (ht : t < 8) : est (pI h (b + 1) t v) b = sJ (est h b) t v := by
  have e4 : gI (pI h (b + 1) t v) b 4 = gI h b 4 := by rw [gI_pI, if_neg (by omega)]
  refine est_ext (fun k' => ?_) (fun t' => ?_) (fun i k' => ?_)
  · show (if k' < 5 then gI (pI h (b + 1) t v) b k' else 0) = if k' < 5 then gI h b k' else 0
    rw [gI_pI, if_neg (show ¬ (b = b + 1 ∧ k' = t) by omega)]
  · rw [eJ_sJ]
    show (if t' < 8 then gI (pI h (b + 1) t v) (b + 1) t' else 0) = if t' = t then v else (if t' < 8 then gI h (b + 1) t' else 0)
    rw [gI_pI]
    by_cases e : t' = t
    · subst e; simp; omega
    · simp [e]
  · show (if i < (gI (pI h (b + 1) t v) b 4).toNatClampNeg ∧ k' < 7 then gI (pI h (b + 1) t v) (b + 3 + i) k' else 0) = if i < (gI h b 4).toNatClampNeg ∧ k' < 7 then gI h (b + 3 + i) k' else 0
    rw [e4, gI_pI, if_neg (show ¬ (b + 3 + i = b + 1 ∧ k' = t) by omega)]
theorem est_pF {h : AH} {b i k : Nat} {v : Int32} (hi : i < cnt (est h b)) (hk : k < 7) : est (pI h (b + 3 + i) k v) b = sF (est h b) i k v := by
  have e4 : gI (pI h (b + 3 + i) k v) b 4 = gI h b 4 := by rw [gI_pI, if_neg (by omega)]
  rw [est_n] at hi
  refine est_ext (fun k' => ?_) (fun t' => ?_) (fun i' k' => ?_)
  · show (if k' < 5 then gI (pI h (b + 3 + i) k v) b k' else 0) = if k' < 5 then gI h b k' else 0
    rw [gI_pI, if_neg (show ¬ (b = b + 3 + i ∧ k' = k) by omega)]
  · show (if t' < 8 then gI (pI h (b + 3 + i) k v) (b + 1) t' else 0) = if t' < 8 then gI h (b + 1) t' else 0
    rw [gI_pI, if_neg (show ¬ (b + 1 = b + 3 + i ∧ t' = k) by omega)]
  · rw [eF_sF]
    show (if i' < (gI (pI h (b + 3 + i) k v) b 4).toNatClampNeg ∧ k' < 7 then gI (pI h (b + 3 + i) k v) (b + 3 + i') k' else 0) = if i' = i ∧ k' = k then v else if i' < (gI h b 4).toNatClampNeg ∧ k' < 7 then gI h (b + 3 + i') k' else 0
    rw [e4, gI_pI]
    by_cases e : i' = i ∧ k' = k
    · obtain ⟨rfl, rfl⟩ := e
      simp [hi, hk]
    · rw [if_neg e, if_neg (show ¬ (b + 3 + i' = b + 3 + i ∧ k' = k) by omega)]
/-- nothing but the estate at b has changed -/
def frE (b : Nat) (h h' : AH) : Prop := (∀ c k, (c < b ∨ b + 13 ≤ c) → gI h' c k = gI h c k) ∧ ∀ c k, gJ h' c k = gJ h c k
theorem frE_rf (b : Nat) (h : AH) : frE b h h := ⟨fun _ _ _ => rfl, fun _ _ => rfl⟩
theorem frE_tr {b : Nat} {h h' h'' : AH} (h1 : frE b h h') (h2 : frE b h' h'') : frE b h h'' := ⟨fun c k hc => (h2.1 c k hc).trans (h1.1 c k hc), fun c k => (h2.2 c k).trans (h1.2 c k)⟩
theorem frE_p {b : Nat} {h h' : AH} (h1 : frE b h h') {c k : Nat} {v : Int32} (hc : b ≤ c ∧ c < b + 13) : frE b h (pI h' c k v) := ⟨fun c' k' hc' => by rw [gI_pI, if_neg (by omega)]; exact h1.1 c' k' hc', fun c' k' => h1.2 c' k'⟩
theorem est_fr {b b' : Nat} {h h' : AH} (hf : frE b h h') (hd : b' + 13 ≤ b ∨ b + 13 ≤ b') (hn : cnt (est h b') ≤ 10) : est h' b' = est h b' := by
  have e0 : ∀ k, gI h' b' k = gI h b' k := fun k => hf.1 b' k (by omega)
  have e1 : ∀ k, gI h' (b' + 1) k = gI h (b' + 1) k := fun k => hf.1 (b' + 1) k (by omega)
  rw [est_n] at hn
  refine est_ext (fun k' => ?_) (fun t' => ?_) (fun i k' => ?_)
  · show (if k' < 5 then _ else _) = _
    rw [e0]; rfl
  · show (if t' < 8 then _ else _) = _
    rw [e1]; rfl
  · show (if i < (gI h' b' 4).toNatClampNeg ∧ k' < 7 then gI h' (b' + 3 + i) k' else 0) = (if i < (gI h b' 4).toNatClampNeg ∧ k' < 7 then gI h (b' + 3 + i) k' else 0)
    rw [e0]
    by_cases hb : i < (gI h b' 4).toNatClampNeg ∧ k' < 7
    · rw [if_pos hb, if_pos hb]
      exact hf.1 _ _ (by omega)
    · rw [if_neg hb, if_neg hb]
