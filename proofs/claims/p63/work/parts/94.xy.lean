variable {nn : Nat}
/-! ===== an object that is asked once is forgotten: the next world begins behind it ===== -/
section FG
variable {p : Program} {l : Launch} {e : Env} {R : Room} {s : State} {m : MethodId} {args : Array Value} {below : List Frame} {meth : Method} {c : Code} {Q : State → Prop}
theorem lvs_LV {w w' : Wld} (h : w'.2.1 15 = w.2.1 15) : lvs w' 0 LV = lvs w 0 LV := by
  show [(0, Value.ref (ad w' 100015))] = [(0, Value.ref (ad w 100015))]
  have e : ad w' 100015 = ad w 100015 := by
    unfold ad
    rw [if_neg (by omega), if_neg (by omega)]
    exact h
  rw [e]
theorem fgt {w w' : Wld} (h15 : w'.2.1 15 = w.2.1 15) (h16 : w'.2.1 16 = w.2.1 16) (h1 : w'.1 = w.1 + 64) (hC : kkC w' = kkC w + 64) (hS : kkS w' = kkS w + 928) {pc : Nat} (k : M w' p l e R s m args below meth c 19 0 0 Q pc Se LV [] zH) (h : AH) : M w p l e R s m args below meth c 19 0 0 Q pc (SHn 0) LV [] h := by
  intro H locs ls hn hR hA hl hc
  have a1 : nC (SHn 0) = 64 := rfl
  have a2 : sC (SHn 0) = 928 := rfl
  have a3 : nC Se = 0 := rfl
  have a4 : sC Se = 0 := rfl
  have eA : A0 w' = A0 w := by unfold A0; rw [h16]
  have z := k H locs ls hn ⟨by rw [a3, hR.1, a1, h1], by rw [a3]; omega, fun c hc => absurd rfl hc, ?_⟩ (by rw [eA]; exact hA) (by rw [lvs_LV h15]; exact hl) (by rw [a3, a4, hC, hS]; rw [a1, a2] at hc; omega)
  · have e1 : nC Se + kkC w' - 0 = nC (SHn 0) + kkC w - 0 := by rw [a3, a1, hC]; omega
    have e2 : sC Se + kkS w' - 0 = sC (SHn 0) + kkS w - 0 := by rw [a4, a2, hS]; omega
    rw [e1, e2] at z
    exact z
  · intro k q hk
    have e : wsO w' Se zH = [] := rfl
    rw [e] at hk
    simp at hk
/-- the worlds one behind another -/
theorem law_run {ws : Nat → Wld} (hfr : 1 ≤ 11) (hR : 600 ≤ R.cells ∧ 7000 ≤ R.slots) (X : ∀ k, k < 7 → CX (ws k) p R s m args c code 19 RL 11) (h15 : ∀ k, k < 7 → (ws k).2.1 15 = (ws 0).2.1 15) (h16 : ∀ k, k < 7 → (ws k).2.1 16 = (ws 0).2.1 16) (h1 : ∀ k, k < 7 → (ws k).1 = s.heap.size + 64 * k) (hC : ∀ k, k < 7 → kkC (ws k) = 64 * k) (hS : ∀ k, k < 7 → kkS (ws k) = 928 * k) (hret : ∀ k, k < 7 → RtOK (ws k) p l e R s m args below meth c code 19 0 0 Q (RtM (some .boolean) (SHn 1) 0 0 KL)) : M (ws 0) p l e R s m args below meth c 19 0 0 Q 0 Se LV [] zH := by
  have run : ∀ k, k < 7 → HJ (R.cells - 64 * k, R.slots - 928 * k) (M (ws k) p l e R s m args below meth c 19 0 0 Q) := by
    intro k hk t S lv st h' hg
    refine goF_snd (X k hk) (fun _ _ _ _ _ q => q) hfr (by rw [hC k hk, h1 k hk]; omega) (ini := false) (fun z => by cases z) ⟨?_, ?_⟩ (hret k hk) ok_L_law (lk_L_law l) _ 60 t S lv st h' hg
    · show R.cells - 64 * k + kkC (ws k) = _
      rw [hC k hk]; omega
    · show R.slots - 928 * k + kkS (ws k) = _
      rw [hS k hk]; omega
  have step : ∀ k, k < 6 → ∀ pc, M (ws (k + 1)) p l e R s m args below meth c 19 0 0 Q pc Se LV [] zH → ∀ h, M (ws k) p l e R s m args below meth c 19 0 0 Q pc (SHn 0) LV [] h := by
    intro k hk pc q h
    refine fgt ?_ ?_ ?_ ?_ ?_ q h
    · rw [h15 (k + 1) (by omega), h15 k (by omega)]
    · rw [h16 (k + 1) (by omega), h16 k (by omega)]
    · rw [h1 (k + 1) (by omega), h1 k (by omega)]; omega
    · rw [hC (k + 1) (by omega), hC k (by omega)]; omega
    · rw [hS (k + 1) (by omega), hS k (by omega)]; omega
  have hc : ∀ k, k < 6 → 64 ≤ (R.cells - 64 * k, R.slots - 928 * k).1 ∧ 928 ≤ (R.cells - 64 * k, R.slots - 928 * k).2 := fun k hk => ⟨by show 64 ≤ R.cells - 64 * k; omega, by show 928 ≤ R.slots - 928 * k; omega⟩
  have r6 := law_all (run 6 (by omega)) ⟨by show 65 ≤ R.cells - 64 * 6; omega, by show 971 ≤ R.slots - 928 * 6; omega⟩
  have r5 := law_88 (run 5 (by omega)) (hc 5 (by omega)) (step 5 (by omega) _ r6)
  have r4 := law_68 (run 4 (by omega)) (hc 4 (by omega)) (step 4 (by omega) _ r5)
  have r3 := law_48 (run 3 (by omega)) (hc 3 (by omega)) (step 3 (by omega) _ r4)
  have r2 := law_30 (run 2 (by omega)) (hc 2 (by omega)) (step 2 (by omega) _ r3)
  have r1 := law_16 (run 1 (by omega)) (hc 1 (by omega)) (step 1 (by omega) _ r2)
  exact law_0 (run 0 (by omega)) (hc 0 (by omega)) (step 0 (by omega) _ r1)
end FG
