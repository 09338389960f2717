variable {nn : Nat}
/-! ===== the world of the law: x is cell 0, its estates 1, 14, 27, its tape 40, its shelves 43, 48.., opinions 44, refusals 47; the law's own row is cell 64, where there is one (nn = 1) ===== -/
def tS0 (nn c : Nat) : Nat × Nat :=
  if c = 0 then (5, 0)
  else if c < 40 then (if (c - 1) % 13 = 0 then (0, 0) else if (c - 1) % 13 = 1 then (10, 8) else if (c - 1) % 13 = 2 then (12, 10) else (1, 0))
  else if c = 40 then (4, 0) else if c = 41 then (10, 250) else if c = 42 then (10, 4) else if c = 43 then (13, 8) else if c = 44 then (2, 0) else if c < 47 then (10, 8) else if c = 47 then (10, 5)
  else if c < 64 then (if c % 2 = 0 then (3, 0) else (11, 40))
  else if c = 64 ∧ 0 < nn then (10, 43)
  else (99, 0)
def rX0 (k : Nat) : Nat := if k = 0 then 2 else if k = 1 then 15 else if k = 2 then 28 else if k = 4 then 41 else if k = 5 then 44 else if k = 6 then 45 else if k = 7 then 48 else 0
def rS0 (c k : Nat) : Nat :=
  if c = 0 then rX0 k
  else if c < 40 then (if (c - 1) % 13 = 0 then (if k = 5 then c + 2 else if k = 6 then c + 3 else 0) else if (c - 1) % 13 = 2 then (if k < 10 then c + 2 + k else 0) else 0)
  else if c = 40 then (if k = 0 then 42 else if k = 5 then 43 else 0)
  else if c = 43 then (if k < 8 then 49 + 2 * k else 0)
  else if c = 44 then (if k = 0 then 46 else if k = 1 then 47 else 0)
  else if c < 48 then 0
  else if c < 64 then (if c % 2 = 0 then (if k = 2 then c + 2 else 0) else 0)
  else 0
def SHn (nn : Nat) : SpS := (64 + nn, 928 + 43 * nn, tS0 nn, rS0)
theorem tn {nn c k : Nat} (hk : k ≠ 99) (h : (tC (SHn 0) c).1 = k) : (tC (SHn nn) c).1 = k := by
  have h : (tS0 0 c).1 = k := h
  show (tS0 nn c).1 = k
  by_cases hc : c < 64
  · rw [← h]; unfold tS0; simp [show ¬ c = 64 by omega]
  · exfalso; apply hk; rw [← h]; unfold tS0
    rw [if_neg (by omega), if_neg (by omega), if_neg (by omega), if_neg (by omega), if_neg (by omega), if_neg (by omega), if_neg (by omega), if_neg (by omega), if_neg (by omega), if_neg (by omega), if_neg (by omega)]
theorem nr0 {α : Type} {a b : α} (h : a = b) : a = b := h
theorem SHn_inj {a b : Nat} (h : SHn a = SHn b) : a = b := by
  have h2 : nC (SHn a) = nC (SHn b) := by rw [h]
  have h3 : 64 + a = 64 + b := h2
  omega
abbrev Sp0T : Type := List Value → AH → (Option Value → AH → Prop) → Prop
def lift (P : Sp0T) : SpT := fun S as h K => ∃ nn : Nat, S = SHn nn ∧ P as h (fun v h' => K v (SHn nn) h')
theorem lift_e (P : Sp0T) (as : List Value) (h : AH) (K : Option Value → SpS → AH → Prop) : lift P (SHn nn) as h K = P as h (fun v h' => K v (SHn nn) h') :=
  propext ⟨fun ⟨m, e, q⟩ => by have e := SHn_inj e; subst e; exact q, fun q => ⟨nn, rfl, q⟩⟩
/-- the law's own methods: where its row is -/
def lift1 (P : Sp0T) : SpT := fun S as h K => S = SHn 1 ∧ P as h (fun v h' => K v (SHn 1) h')
theorem lift1_e (P : Sp0T) (as : List Value) (h : AH) (K : Option Value → SpS → AH → Prop) : lift1 P (SHn 1) as h K = P as h (fun v h' => K v (SHn 1) h') := by simp [lift1]
theorem capO_z (cap : Nat × Nat) (S : SpS) : capO cap S 0 0 = True := by simp [capO]
theorem if00 {α : Type} (a b : α) : (if (0 : Nat) = 0 then a else b) = a := rfl
theorem if10 {α : Type} (a b : α) : (if (1 : Nat) = 0 then a else b) = b := rfl
theorem rv_s (r : Nat) : rv (r + 1) = .ref r := rfl
theorem RtM_z (ret : Option FieldType) (K : Option Value → SpS → AH → Prop) (v : Option Value) (h : AH) : RtM ret (SHn nn) 0 0 K v (SHn nn) h = (retOK ret v ∧ K v (SHn nn) h) := by
  simp [RtM]
theorem Ct0_mk {l : Launch} {lev maxL : Nat} {y : MethodName} {cc : ByteArray} {ret : Option FieldType} {P : Sp0T} (L : List Item) (hd : List Nat) (hy : plainName y.cls = true) (hlev : 1 ≤ lev) (hok : okB cc L = true) (hlk : LKs l y.cls lev false L)
    (hH : ∀ (nn : Nat) (as : List Value) (h : AH) (K : Option Value → SpS → AH → Prop), P as h (fun v h' => K v (SHn nn) h') → slotsN as ≤ maxL ∧ ∀ J : Nat → SpS → List Value → List Value → AH → Prop, (∀ (t : Nat) (S : SpS) (lv st : List Value) (h' : AH), goF 60 J (RtM ret (SHn nn) 0 0 K) (nC (SHn nn) + 0, sC (SHn nn) + 0) (afw L hd) (atL L t) S lv st h' → J t S lv st h') → J 0 (SHn nn) (pad maxL as) [] h) : Ct l y cc maxL ret lev 0 0 (lift P) := by
  refine Ct_mk L hd hy hlev (fun q => by cases q) hok hlk (fun S as h K hS => ?_)
  obtain ⟨nn, rfl, hP⟩ := hS
  exact hH nn as h K hP
theorem Ct1_mk {l : Launch} {lev maxL : Nat} {y : MethodName} {cc : ByteArray} {ret : Option FieldType} {P : Sp0T} (L : List Item) (hd : List Nat) (hy : plainName y.cls = true) (hlev : 1 ≤ lev) (hok : okB cc L = true) (hlk : LKs l y.cls lev false L)
    (hH : ∀ (as : List Value) (h : AH) (K : Option Value → SpS → AH → Prop), P as h (fun v h' => K v (SHn 1) h') → slotsN as ≤ maxL ∧ ∀ J : Nat → SpS → List Value → List Value → AH → Prop, (∀ (t : Nat) (S : SpS) (lv st : List Value) (h' : AH), goF 60 J (RtM ret (SHn 1) 0 0 K) (nC (SHn 1) + 0, sC (SHn 1) + 0) (afw L hd) (atL L t) S lv st h' → J t S lv st h') → J 0 (SHn 1) (pad maxL as) [] h) : Ct l y cc maxL ret lev 0 0 (lift1 P) := by
  refine Ct_mk L hd hy hlev (fun q => by cases q) hok hlk (fun S as h K hS => ?_)
  obtain ⟨rfl, hP⟩ := hS
  exact hH as h K hP
theorem kb_6 : (Int8.ofInt 6).toInt32 = 6 := by decide
theorem kb_11 : (Int8.ofInt 11).toInt32 = 11 := by decide
theorem kb_13 : (Int8.ofInt 13).toInt32 = 13 := by decide
theorem kb_15 : (Int8.ofInt 15).toInt32 = 15 := by decide
theorem kb_17 : (Int8.ofInt 17).toInt32 = 17 := by decide
theorem kb_18 : (Int8.ofInt 18).toInt32 = 18 := by decide
theorem kb_19 : (Int8.ofInt 19).toInt32 = 19 := by decide
theorem kb_23 : (Int8.ofInt 23).toInt32 = 23 := by decide
theorem kb_24 : (Int8.ofInt 24).toInt32 = 24 := by decide
theorem kb_25 : (Int8.ofInt 25).toInt32 = 25 := by decide
theorem kb_26 : (Int8.ofInt 26).toInt32 = 26 := by decide
theorem kb_29 : (Int8.ofInt 29).toInt32 = 29 := by decide
theorem kb_31 : (Int8.ofInt 31).toInt32 = 31 := by decide
theorem kb_35 : (Int8.ofInt 35).toInt32 = 35 := by decide
theorem kb_37 : (Int8.ofInt 37).toInt32 = 37 := by decide
theorem kb_41 : (Int8.ofInt 41).toInt32 = 41 := by decide
theorem kb_43 : (Int8.ofInt 43).toInt32 = 43 := by decide
theorem kb_44 : (Int8.ofInt 44).toInt32 = 44 := by decide
theorem kb_61 : (Int8.ofInt 61).toInt32 = 61 := by decide
theorem kb_75 : (Int8.ofInt 75).toInt32 = 75 := by decide
theorem kb_104 : (Int8.ofInt 104).toInt32 = 104 := by decide
theorem kb_7 : (Int8.ofInt 7).toInt32 = 7 := by decide
theorem kb_8 : (Int8.ofInt 8).toInt32 = 8 := by decide
theorem kb_9 : (Int8.ofInt 9).toInt32 = 9 := by decide
theorem kb_10 : (Int8.ofInt 10).toInt32 = 10 := by decide
theorem kb_12 : (Int8.ofInt 12).toInt32 = 12 := by decide
theorem kb_16 : (Int8.ofInt 16).toInt32 = 16 := by decide
theorem kb_20 : (Int8.ofInt 20).toInt32 = 20 := by decide
theorem kb_21 : (Int8.ofInt 21).toInt32 = 21 := by decide
theorem kb_30 : (Int8.ofInt 30).toInt32 = 30 := by decide
theorem kb_32 : (Int8.ofInt 32).toInt32 = 32 := by decide
theorem kb_40 : (Int8.ofInt 40).toInt32 = 40 := by decide
theorem kb_48 : (Int8.ofInt 48).toInt32 = 48 := by decide
theorem kb_50 : (Int8.ofInt 50).toInt32 = 50 := by decide
theorem kb_57 : (Int8.ofInt 57).toInt32 = 57 := by decide
theorem kb_59 : (Int8.ofInt 59).toInt32 = 59 := by decide
theorem kb_60 : (Int8.ofInt 60).toInt32 = 60 := by decide
theorem kb_63 : (Int8.ofInt 63).toInt32 = 63 := by decide
theorem kb_70 : (Int8.ofInt 70).toInt32 = 70 := by decide
theorem kb_78 : (Int8.ofInt 78).toInt32 = 78 := by decide
theorem kb_81 : (Int8.ofInt 81).toInt32 = 81 := by decide
theorem kb_82 : (Int8.ofInt 82).toInt32 = 82 := by decide
theorem kb_84 : (Int8.ofInt 84).toInt32 = 84 := by decide
theorem kb_97 : (Int8.ofInt 97).toInt32 = 97 := by decide
theorem kb_99 : (Int8.ofInt 99).toInt32 = 99 := by decide
theorem kb_100 : (Int8.ofInt 100).toInt32 = 100 := by decide
theorem kb_101 : (Int8.ofInt 101).toInt32 = 101 := by decide
theorem kb_119 : (Int8.ofInt 119).toInt32 = 119 := by decide
theorem kb_120 : (Int8.ofInt 120).toInt32 = 120 := by decide
theorem kb_122 : (Int8.ofInt 122).toInt32 = 122 := by decide
theorem ki_m1 : Int32.ofInt (-1) = (-1) := by decide
theorem ki_0 : Int32.ofInt 0 = 0 := by decide
theorem ki_1 : Int32.ofInt 1 = 1 := by decide
theorem ki_2 : Int32.ofInt 2 = 2 := by decide
theorem ki_3 : Int32.ofInt 3 = 3 := by decide
theorem ki_4 : Int32.ofInt 4 = 4 := by decide
theorem ki_5 : Int32.ofInt 5 = 5 := by decide
theorem ki_6 : Int32.ofInt 6 = 6 := by decide
theorem ki_7 : Int32.ofInt 7 = 7 := by decide
theorem ki_8 : Int32.ofInt 8 = 8 := by decide
theorem ki_9 : Int32.ofInt 9 = 9 := by decide
theorem ki_10 : Int32.ofInt 10 = 10 := by decide
theorem ki_11 : Int32.ofInt 11 = 11 := by decide
theorem ki_12 : Int32.ofInt 12 = 12 := by decide
theorem ki_13 : Int32.ofInt 13 = 13 := by decide
theorem ki_14 : Int32.ofInt 14 = 14 := by decide
theorem ki_15 : Int32.ofInt 15 = 15 := by decide
theorem ki_16 : Int32.ofInt 16 = 16 := by decide
theorem ki_17 : Int32.ofInt 17 = 17 := by decide
theorem ki_18 : Int32.ofInt 18 = 18 := by decide
theorem ki_19 : Int32.ofInt 19 = 19 := by decide
theorem ki_20 : Int32.ofInt 20 = 20 := by decide
theorem ki_21 : Int32.ofInt 21 = 21 := by decide
theorem ki_22 : Int32.ofInt 22 = 22 := by decide
theorem ki_23 : Int32.ofInt 23 = 23 := by decide
theorem ki_24 : Int32.ofInt 24 = 24 := by decide
theorem ki_25 : Int32.ofInt 25 = 25 := by decide
theorem ki_26 : Int32.ofInt 26 = 26 := by decide
theorem ki_27 : Int32.ofInt 27 = 27 := by decide
theorem ki_28 : Int32.ofInt 28 = 28 := by decide
theorem ki_29 : Int32.ofInt 29 = 29 := by decide
theorem ki_30 : Int32.ofInt 30 = 30 := by decide
theorem ki_31 : Int32.ofInt 31 = 31 := by decide
theorem ki_32 : Int32.ofInt 32 = 32 := by decide
theorem ki_33 : Int32.ofInt 33 = 33 := by decide
theorem ki_34 : Int32.ofInt 34 = 34 := by decide
theorem ki_35 : Int32.ofInt 35 = 35 := by decide
theorem ki_36 : Int32.ofInt 36 = 36 := by decide
theorem ki_37 : Int32.ofInt 37 = 37 := by decide
theorem ki_38 : Int32.ofInt 38 = 38 := by decide
theorem ki_39 : Int32.ofInt 39 = 39 := by decide
theorem ki_40 : Int32.ofInt 40 = 40 := by decide
theorem ki_41 : Int32.ofInt 41 = 41 := by decide
theorem ki_42 : Int32.ofInt 42 = 42 := by decide
theorem ki_43 : Int32.ofInt 43 = 43 := by decide
theorem ki_44 : Int32.ofInt 44 = 44 := by decide
theorem ki_45 : Int32.ofInt 45 = 45 := by decide
theorem ki_46 : Int32.ofInt 46 = 46 := by decide
theorem ki_47 : Int32.ofInt 47 = 47 := by decide
theorem ki_48 : Int32.ofInt 48 = 48 := by decide
theorem ki_49 : Int32.ofInt 49 = 49 := by decide
theorem ki_50 : Int32.ofInt 50 = 50 := by decide
theorem ki_51 : Int32.ofInt 51 = 51 := by decide
theorem ki_52 : Int32.ofInt 52 = 52 := by decide
theorem ki_53 : Int32.ofInt 53 = 53 := by decide
theorem ki_54 : Int32.ofInt 54 = 54 := by decide
theorem ki_55 : Int32.ofInt 55 = 55 := by decide
theorem ki_56 : Int32.ofInt 56 = 56 := by decide
theorem ki_57 : Int32.ofInt 57 = 57 := by decide
theorem ki_58 : Int32.ofInt 58 = 58 := by decide
theorem ki_59 : Int32.ofInt 59 = 59 := by decide
theorem ki_60 : Int32.ofInt 60 = 60 := by decide
theorem ki_61 : Int32.ofInt 61 = 61 := by decide
theorem ki_62 : Int32.ofInt 62 = 62 := by decide
theorem ki_63 : Int32.ofInt 63 = 63 := by decide
theorem ks_m2000 : (Int16.ofInt (-2000)).toInt32 = (-2000) := by decide
theorem ks_m1006 : (Int16.ofInt (-1006)).toInt32 = (-1006) := by decide
theorem ks_m1005 : (Int16.ofInt (-1005)).toInt32 = (-1005) := by decide
theorem ks_m1004 : (Int16.ofInt (-1004)).toInt32 = (-1004) := by decide
theorem ks_m1003 : (Int16.ofInt (-1003)).toInt32 = (-1003) := by decide
theorem ks_m1002 : (Int16.ofInt (-1002)).toInt32 = (-1002) := by decide
theorem ks_m1000 : (Int16.ofInt (-1000)).toInt32 = (-1000) := by decide
theorem ks_200 : (Int16.ofInt 200).toInt32 = 200 := by decide
theorem ks_201 : (Int16.ofInt 201).toInt32 = 201 := by decide
theorem ks_300 : (Int16.ofInt 300).toInt32 = 300 := by decide
theorem ks_720 : (Int16.ofInt 720).toInt32 = 720 := by decide
theorem ks_9000 : (Int16.ofInt 9000).toInt32 = 9000 := by decide
theorem ks_10000 : (Int16.ofInt 10000).toInt32 = 10000 := by decide
theorem ks_250 : (Int16.ofInt 250).toInt32 = 250 := by decide
theorem ks_255 : (Int16.ofInt 255).toInt32 = 255 := by decide
theorem ks_256 : (Int16.ofInt 256).toInt32 = 256 := by decide
theorem ks_320 : (Int16.ofInt 320).toInt32 = 320 := by decide
theorem ks_660 : (Int16.ofInt 660).toInt32 = 660 := by decide
theorem ks_999 : (Int16.ofInt 999).toInt32 = 999 := by decide
theorem ks_1000 : (Int16.ofInt 1000).toInt32 = 1000 := by decide
theorem ks_9999 : (Int16.ofInt 9999).toInt32 = 9999 := by decide
theorem ks_12345 : (Int16.ofInt 12345).toInt32 = 12345 := by decide
theorem kn_10000000 : cstV 0 = 10000000 := by decide
theorem kn_1103515245 : cstV 1 = 1103515245 := by decide
theorem kn_1431655765 : cstV 2 = 1431655765 := by decide
theorem kn_858993459 : cstV 3 = 858993459 := by decide
theorem kn_252645135 : cstV 4 = 252645135 := by decide
theorem kn_99999 : cstV 5 = 99999 := by decide
theorem kl_7 : cstW 0 = 7 := by decide
theorem kl_1000000 : cstW 1 = 1000000 := by decide
theorem kl_31 : cstW 2 = 31 := by decide
theorem kl_m1 : cstW 3 = -1 := by decide
theorem ne_2 : ((2 : Int32) = 0) = False := by decide
theorem ne_10 : ((10 : Int32) = 0) = False := by decide
theorem kc_0 : Int64.ofNat (0 : Fin 2).val = 0 := rfl
theorem kc_1 : Int64.ofNat (1 : Fin 2).val = 1 := rfl
theorem kf_0 : (0 : Fin 4).val = 0 := rfl
theorem kf_1 : (1 : Fin 4).val = 1 := rfl
theorem kf_2 : (2 : Fin 4).val = 2 := rfl
theorem kf_3 : (3 : Fin 4).val = 3 := rfl
theorem t_0 : tC (SHn nn) 0 = (5, 0) := nr0 rfl
theorem t_40 : tC (SHn nn) 40 = (4, 0) := nr0 rfl
theorem t_41 : tC (SHn nn) 41 = (10, 250) := nr0 rfl
theorem t_42 : tC (SHn nn) 42 = (10, 4) := nr0 rfl
theorem t_43 : tC (SHn nn) 43 = (13, 8) := nr0 rfl
theorem t_44 : tC (SHn nn) 44 = (2, 0) := nr0 rfl
theorem t_45 : tC (SHn nn) 45 = (10, 8) := nr0 rfl
theorem t_46 : tC (SHn nn) 46 = (10, 8) := nr0 rfl
theorem t_47 : tC (SHn nn) 47 = (10, 5) := nr0 rfl
theorem r_0_0 : rv (rC (SHn nn) 0 0) = .ref 1 := nr0 rfl
theorem r_0_1 : rv (rC (SHn nn) 0 1) = .ref 14 := nr0 rfl
theorem r_0_2 : rv (rC (SHn nn) 0 2) = .ref 27 := nr0 rfl
theorem r_0_4 : rv (rC (SHn nn) 0 4) = .ref 40 := nr0 rfl
theorem r_0_5 : rv (rC (SHn nn) 0 5) = .ref 43 := nr0 rfl
theorem r_0_6 : rv (rC (SHn nn) 0 6) = .ref 44 := nr0 rfl
theorem r_0_7 : rv (rC (SHn nn) 0 7) = .ref 47 := nr0 rfl
theorem r_40_0 : rv (rC (SHn nn) 40 0) = .ref 41 := nr0 rfl
theorem r_40_5 : rv (rC (SHn nn) 40 5) = .ref 42 := nr0 rfl
theorem r_44_0 : rv (rC (SHn nn) 44 0) = .ref 45 := nr0 rfl
theorem r_44_1 : rv (rC (SHn nn) 44 1) = .ref 46 := nr0 rfl
theorem t_1 : tC (SHn nn) 1 = (0, 0) := nr0 rfl
theorem t_14 : tC (SHn nn) 14 = (0, 0) := nr0 rfl
theorem t_27 : tC (SHn nn) 27 = (0, 0) := nr0 rfl
theorem t_2 : tC (SHn nn) 2 = (10, 8) := nr0 rfl
theorem t_15 : tC (SHn nn) 15 = (10, 8) := nr0 rfl
theorem t_28 : tC (SHn nn) 28 = (10, 8) := nr0 rfl
theorem t_64 : tC (SHn 1) 64 = (10, 43) := nr0 rfl
theorem tC_H {c : Nat} (h : tC (SHn nn) c = (1, 0)) : (tC (SHn nn) c).1 = 1 := by rw [h]
/-- an estate of x -/
def isE (b : Nat) : Prop := b = 1 ∨ b = 14 ∨ b = 27
theorem tE {b : Nat} (h : isE b) : tC (SHn nn) b = (0, 0) := by rcases h with rfl | rfl | rfl <;> rfl
theorem tE1 {b : Nat} (h : isE b) : tC (SHn nn) (b + 1) = (10, 8) := by rcases h with rfl | rfl | rfl <;> rfl
theorem tE2 {b : Nat} (h : isE b) : tC (SHn nn) (b + 2) = (12, 10) := by rcases h with rfl | rfl | rfl <;> rfl
theorem tEH {b i : Nat} (h : isE b) (hi : i < 10) : tC (SHn nn) (b + 3 + i) = (1, 0) := by
  rcases (show i = 0 ∨ i = 1 ∨ i = 2 ∨ i = 3 ∨ i = 4 ∨ i = 5 ∨ i = 6 ∨ i = 7 ∨ i = 8 ∨ i = 9 by omega) with rfl | rfl | rfl | rfl | rfl | rfl | rfl | rfl | rfl | rfl <;> rcases h with rfl | rfl | rfl <;> rfl
theorem rE5 {b : Nat} (h : isE b) : rv (rC (SHn nn) b 5) = .ref (b + 1) := by rcases h with rfl | rfl | rfl <;> rfl
theorem rE6 {b : Nat} (h : isE b) : rv (rC (SHn nn) b 6) = .ref (b + 2) := by rcases h with rfl | rfl | rfl <;> rfl
theorem rEH {b i : Nat} (h : isE b) (hi : i < 10) : rv (rC (SHn nn) (b + 2) i) = .ref (b + 3 + i) := by
  rcases (show i = 0 ∨ i = 1 ∨ i = 2 ∨ i = 3 ∨ i = 4 ∨ i = 5 ∨ i = 6 ∨ i = 7 ∨ i = 8 ∨ i = 9 by omega) with rfl | rfl | rfl | rfl | rfl | rfl | rfl | rfl | rfl | rfl <;> rcases h with rfl | rfl | rfl <;> rfl
theorem tSh {s : Nat} (hs : s < 8) : tC (SHn nn) (48 + 2 * s) = (3, 0) := by
  rcases (show s = 0 ∨ s = 1 ∨ s = 2 ∨ s = 3 ∨ s = 4 ∨ s = 5 ∨ s = 6 ∨ s = 7 by omega) with rfl | rfl | rfl | rfl | rfl | rfl | rfl | rfl <;> rfl
theorem tSl {s : Nat} (hs : s < 8) : tC (SHn nn) (49 + 2 * s) = (11, 40) := by
  rcases (show s = 0 ∨ s = 1 ∨ s = 2 ∨ s = 3 ∨ s = 4 ∨ s = 5 ∨ s = 6 ∨ s = 7 by omega) with rfl | rfl | rfl | rfl | rfl | rfl | rfl | rfl <;> rfl
theorem rSh {s : Nat} (hs : s < 8) : rv (rC (SHn nn) 43 s) = .ref (48 + 2 * s) := by
  rcases (show s = 0 ∨ s = 1 ∨ s = 2 ∨ s = 3 ∨ s = 4 ∨ s = 5 ∨ s = 6 ∨ s = 7 by omega) with rfl | rfl | rfl | rfl | rfl | rfl | rfl | rfl <;> rfl
theorem rSl {s : Nat} (hs : s < 8) : rv (rC (SHn nn) (48 + 2 * s) 2) = .ref (49 + 2 * s) := by
  rcases (show s = 0 ∨ s = 1 ∨ s = 2 ∨ s = 3 ∨ s = 4 ∨ s = 5 ∨ s = 6 ∨ s = 7 by omega) with rfl | rfl | rfl | rfl | rfl | rfl | rfl | rfl <;> rfl
