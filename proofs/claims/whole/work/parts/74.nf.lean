/-! ===== the model's calls: how likely it lasts ===== -/
def popR (k r : Nat) : Nat := match k with
  | 0 => 0
  | k + 1 => r % 2 + popR k (r / 2)
theorem popR_s (k r : Nat) : popR (k + 1) r = r % 2 + popR k (r / 2) := rfl
theorem popR_0 : ∀ k, popR k 0 = 0
  | 0 => rfl
  | k + 1 => by rw [popR_s, popR_0 k]
theorem popR_t : ∀ t j r, r < 2 ^ t → popR (t + j) r = popR t r
  | 0, j, r, h => by
    have : r = 0 := by rw [Nat.pow_zero] at h; omega
    rw [this, popR_0]; rfl
  | t + 1, j, r, h => by
    rw [Nat.pow_succ] at h
    rw [show t + 1 + j = (t + j) + 1 by omega, popR_s, popR_s, popR_t t j (r / 2) (by omega)]
theorem popR_b : ∀ k r, popR k r ≤ k
  | 0, _ => Nat.le_refl 0
  | k + 1, r => by
    have := popR_b k (r / 2)
    rw [popR_s]
    omega
theorem pop_c : ∀ a, a < 64 → ∀ b, b < 64 → popI (nI (64 * a + b)) = nI (popR 12 (64 * a + b)) := by decide +kernel
theorem pop_e (r : Nat) (hr : r < 4096) : popI (nI r) = nI (popR 12 r) := by
  have := pop_c (r / 64) (by omega) (r % 64) (by omega)
  rw [show 64 * (r / 64) + r % 64 = r by omega] at this
  exact this
def smN (n : Nat) (g : Nat → Nat) : Nat := match n with
  | 0 => 0
  | n + 1 => smN n g + g n
theorem smN_s (n : Nat) (g : Nat → Nat) : smN (n + 1) g = smN n g + g n := rfl
theorem smN_c {f g : Nat → Nat} : ∀ n, (∀ i, i < n → f i = g i) → smN n f = smN n g
  | 0, _ => rfl
  | n + 1, h => by rw [smN_s, smN_s, smN_c n (fun i hi => h i (by omega)), h n (by omega)]
theorem smN_a (f g : Nat → Nat) : ∀ n, smN n (fun i => f i + g i) = smN n f + smN n g
  | 0 => rfl
  | n + 1 => by rw [smN_s, smN_s, smN_s, smN_a f g n]; omega
theorem smN_h (g : Nat → Nat) : ∀ n, smN (n + 1) g = g 0 + smN n (fun i => g (i + 1))
  | 0 => by rw [smN_s]; show 0 + g 0 = g 0 + 0; omega
  | n + 1 => by rw [smN_s, smN_h g n, smN_s]; omega
theorem smN_2 (g : Nat → Nat) : ∀ n, smN (2 * n) g = smN n (fun r => g (2 * r) + g (2 * r + 1))
  | 0 => rfl
  | n + 1 => by rw [show 2 * (n + 1) = 2 * n + 1 + 1 by omega, smN_s, smN_s, smN_2 g n, smN_s]; omega
theorem smN_b {g : Nat → Nat} {b : Nat} (h : ∀ i, g i ≤ b) : ∀ n, smN n g ≤ n * b
  | 0 => by rw [Nat.zero_mul]; exact Nat.le_refl 0
  | n + 1 => by
    have := smN_b h n
    have := h n
    rw [smN_s, Nat.succ_mul]
    omega
def chN (t b : Nat) : Nat := match t, b with
  | _, 0 => 1
  | 0, _ + 1 => 0
  | t + 1, b + 1 => chN t b + chN t (b + 1)
theorem chN_s (t b : Nat) : chN (t + 1) (b + 1) = chN t b + chN t (b + 1) := rfl
theorem chN_0 (t : Nat) : chN t 0 = 1 := by cases t <;> rfl
theorem chN_z : ∀ t b, t < b → chN t b = 0
  | t, 0, h => absurd h (Nat.not_lt_zero t)
  | 0, b + 1, _ => rfl
  | t + 1, b + 1, h => by rw [chN_s, chN_z t b (by omega), chN_z t (b + 1) (by omega)]
theorem rows_e : ∀ t (f : Nat → Nat), smN (2 ^ t) (fun r => f (popR t r)) = smN (t + 1) (fun i => chN t i * f i)
  | 0, f => by
    show 0 + f 0 = 0 + 1 * f 0
    omega
  | t + 1, f => by
    have e1 : smN (2 ^ (t + 1)) (fun r => f (popR (t + 1) r)) = smN (2 ^ t) (fun r => f (popR t r) + f (popR t r + 1)) := by
      rw [Nat.pow_succ, Nat.mul_comm, smN_2]
      refine smN_c _ (fun r _ => ?_)
      rw [popR_s, popR_s, show 2 * r % 2 = 0 by omega, show 2 * r / 2 = r by omega, show (2 * r + 1) % 2 = 1 by omega, show (2 * r + 1) / 2 = r by omega, Nat.zero_add, Nat.add_comm 1]
    rw [e1, rows_e t (fun b => f b + f (b + 1)), smN_h (fun i => chN (t + 1) i * f i) (t + 1)]
    have e2 : smN (t + 1) (fun i => chN (t + 1) (i + 1) * f (i + 1)) = smN (t + 1) (fun i => chN t i * f (i + 1)) + smN (t + 1) (fun i => chN t (i + 1) * f (i + 1)) := by
      rw [← smN_a]
      exact smN_c _ (fun i _ => by rw [chN_s, Nat.add_mul])
    have e3 := smN_h (fun i => chN t i * f i) (t + 1)
    rw [smN_s, chN_z t (t + 1) (by omega), Nat.zero_mul, Nat.add_zero] at e3
    have e4 : smN (t + 1) (fun i => chN t i * (f i + f (i + 1))) = smN (t + 1) (fun i => chN t i * f i) + smN (t + 1) (fun i => chN t i * f (i + 1)) := by
      rw [← smN_a]
      exact smN_c _ (fun i _ => by rw [Nat.mul_add])
    rw [e2, e4, e3]
    simp only [chN_0]
    omega
theorem ch_step : ∀ t, t < 13 → ∀ b, b < 13 → b ≤ t → Int64.ofNat (chN t b) * (nI t - nI b).toInt64 / (nI b + 1).toInt64 = Int64.ofNat (chN t (b + 1)) := by decide +kernel
theorem nI_64 {n : Nat} (h : n < 2147483648) : (nI n).toInt64 = Int64.ofNat n := by
  rw [← Int64.toInt_inj, Int32.toInt_toInt64, nI_toInt h, Int64.toInt_ofNat_of_lt (by omega)]
theorem left_e {S Q p : Nat} (hS : S ≤ 9999) (hQ : Q ≤ 99) (hp : p ≤ 12) : (if (0 : Int32) < nI S - nI (Q * p) then nI S - nI (Q * p) else 0) = nI (S - Q * p) := by
  have b1 : Q * p ≤ 99 * 12 := Nat.mul_le_mul hQ hp
  by_cases q : Q * p ≤ S
  · rw [nI_sub q (by omega)]
    by_cases z : S - Q * p = 0
    · rw [z]; rfl
    · rw [if_pos (by rw [show (0 : Int32) = nI 0 from rfl, lt_nI (by omega) (by omega)]; omega)]
  · rw [if_neg, show S - Q * p = 0 by omega]
    · rfl
    · rw [lt_ti, ti_0, ti_sub (by rw [nI_toInt (by omega), nI_toInt (by omega)]; omega) (by rw [nI_toInt (by omega), nI_toInt (by omega)]; omega), nI_toInt (by omega), nI_toInt (by omega)]
      omega
theorem odd_e {S Q t : Nat} (hS : S ≤ 9999) (hQ : Q ≤ 99) (ht : t ≤ 12) : ∀ n, n ≤ t + 1 → oddN (nI S) (nI Q) t n = (Int64.ofNat (chN t n), Int64.ofNat (smN n (fun i => chN t i * (if 0 < S - Q * i then 1 else 0))), Int64.ofNat (smN n (fun i => chN t i * (S - Q * i))))
  | 0, _ => by
    show ((1 : Int64), (0 : Int64), (0 : Int64)) = _
    rw [chN_0]; rfl
  | n + 1, h => by
    have le : leftI (nI S) (nI Q) n = nI (S - Q * n) := by
      unfold leftI
      rw [Int32.mul_comm, nI_mul]
      exact left_e hS hQ (by omega)
    rw [oddN_s, odd_e hS hQ ht n (by omega)]
    unfold oddS
    dsimp only
    rw [ch_step t (by omega) n (by omega) (by omega), le, nI_64 (by omega), smN_s, smN_s]
    refine Prod.ext rfl (Prod.ext ?_ ?_)
    · dsimp only
      by_cases q : 0 < S - Q * n
      · rw [if_pos q, if_pos (by rw [show (0 : Int32) = nI 0 from rfl, lt_nI (by omega) (by omega)]; exact q), Nat.mul_one, Int64.ofNat_add]
      · rw [if_neg q, if_neg (by rw [show (0 : Int32) = nI 0 from rfl, lt_nI (by omega) (by omega)]; exact q), Nat.mul_zero, Nat.add_zero]
    · dsimp only
      rw [Int64.ofNat_add, Int64.ofNat_mul]
theorem sar_32 {t : Nat} (ht : t < 13) (x : Int32) : (x >>> (nI t &&& 31)).toInt = x.toInt >>> t := by
  have e : ((nI t &&& 31).toBitVec.smod 32).toNat = t := (by decide : ∀ t, t < 13 → ((nI t &&& 31).toBitVec.smod 32).toNat = t) t ht
  show (x.toBitVec.sshiftRight ((nI t &&& 31).toBitVec.smod 32).toNat).toInt = _
  rw [BitVec.toInt_sshiftRight, e]
  rfl
theorem sar_64 {t : Nat} (ht : t < 13) (x : Int64) : (x >>> ((nI t).toInt64 &&& 63)).toInt = x.toInt >>> t := by
  have e : (((nI t).toInt64 &&& 63).toBitVec.smod 64).toNat = t := (by decide : ∀ t, t < 13 → (((nI t).toInt64 &&& 63).toBitVec.smod 64).toNat = t) t ht
  show (x.toBitVec.sshiftRight (((nI t).toInt64 &&& 63).toBitVec.smod 64).toNat).toInt = _
  rw [BitVec.toInt_sshiftRight, e]
  rfl
theorem sar_e {t D : Nat} (ht : t < 13) (hD : D < 2147483648) : (Int64.ofNat D >>> ((nI t).toInt64 &&& 63)).toInt32 = nI D >>> (nI t &&& 31) := by
  rw [← Int32.toInt_inj, Int64.toInt_toInt32, sar_64 ht, sar_32 ht, nI_toInt hD, Int64.toInt_ofNat_of_lt (by omega)]
  have e : ((D : Int) >>> t) = ((D >>> t : Nat) : Int) := rfl
  have le : D >>> t ≤ D := by rw [Nat.shiftRight_eq_div_pow]; exact Nat.div_le_self _ _
  rw [e]
  generalize D >>> t = d at *
  exact Int.bmod_eq_of_le (by omega) (by omega)
theorem shl_e : ∀ t, t < 13 → (1 : Int32) <<< (nI t &&& 31) = nI (2 ^ t) := by decide
theorem pw_12 {t : Nat} (ht : t ≤ 12) : 2 ^ t ≤ 4096 := Nat.le_trans (Nat.pow_le_pow_right (by omega) ht) (by decide)
def rowD (S Q : Nat) (r : Nat) : Nat := smN r (fun r => S - Q * popR 12 r)
def rowN (S Q : Nat) (r : Nat) : Nat := smN r (fun r => if 0 < S - Q * popR 12 r then 1 else 0)
theorem row_all {t : Nat} (ht : t ≤ 12) (f : Nat → Nat) : smN (2 ^ t) (fun r => f (popR 12 r)) = smN (t + 1) (fun i => chN t i * f i) := by
  rw [← rows_e t f]
  exact smN_c _ (fun r hr => by rw [show 12 = t + (12 - t) by omega, popR_t t (12 - t) r hr])
theorem odd_1 {S Q t : Nat} (hS : S ≤ 9999) (hQ : Q ≤ 99) (ht : t ≤ 12) (w : Int32) (hw : ¬ w = 0) : oddI (nI S) (nI Q) t w = nI (rowD S Q (2 ^ t)) >>> (nI t &&& 31) := by
  have p := pw_12 ht
  have b : rowD S Q (2 ^ t) ≤ 2 ^ t * 9999 := smN_b (fun i => by omega) _
  have b2 : 2 ^ t * 9999 ≤ 4096 * 9999 := Nat.mul_le_mul_right _ p
  have e : rowD S Q (2 ^ t) = smN (t + 1) (fun i => chN t i * (S - Q * i)) := row_all ht (fun p => S - Q * p)
  unfold oddI
  rw [if_neg hw, odd_e hS hQ ht (t + 1) (Nat.le_refl _), ← e]
  exact sar_e (by omega) (by omega)
theorem odd_0 {S Q t : Nat} (hS : S ≤ 9999) (hQ : Q ≤ 99) (ht : t ≤ 12) (w : Int32) (hw : w = 0) : oddI (nI S) (nI Q) t w = ((cstW 1 * (nI (rowN S Q (2 ^ t))).toInt64) >>> ((nI t).toInt64 &&& 63)).toInt32 := by
  have p := pw_12 ht
  have b : rowN S Q (2 ^ t) ≤ 2 ^ t * 1 := smN_b (fun i => by split <;> omega) _
  have e : rowN S Q (2 ^ t) = smN (t + 1) (fun i => chN t i * (if 0 < S - Q * i then 1 else 0)) := row_all ht (fun p => if 0 < S - Q * p then 1 else 0)
  unfold oddI
  rw [if_pos hw, odd_e hS hQ ht (t + 1) (Nat.le_refl _), ← e]
  have e64 : (nI (rowN S Q (2 ^ t))).toInt64 = Int64.ofNat (rowN S Q (2 ^ t)) := nI_64 (by omega)
  rw [e64]
  show ((Int64.ofNat (rowN S Q (2 ^ t)) * cstW 1) >>> _).toInt32 = _
  rw [Int64.mul_comm]
theorem store_n {G : GV} (hI : okM G) : ∃ S : Nat, S ≤ 9999 ∧ eS (vE G) 0 = nI S := by
  obtain ⟨T, -, ⟨-, -, ⟨h1, h2⟩, -⟩, -⟩ := hI
  exact in_of (m := 9999) (by omega) ⟨h1, h2⟩
def P_X6_odds : Sp0T := fun as h K => match as with
  | [.ref x, .int t, .int q, .int w] => x = 64 ∧ XM h (fun G => g_odds G t q w) K
  | _ => False
def S_X6_odds : SpT := lift P_X6_odds
def L_X6_odds_116 : List Item := (116, .ireturn, [], nS) :: []
def L_X6_odds_112 : List Item := (112, .iload 5, [], nS) :: (114, .iload_n 1, [], nS) :: (115, .ishr, [], nS) :: L_X6_odds_116
def L_X6_odds_95 : List Item := (95, .iload_n 3, [], nS) :: (96, .ifCond .ne 16, [112], nS) :: (99, .ldc2_w 283, [1], nS) :: (102, .iload 4, [], nS) :: (104, .i2l, [], nS) :: (105, .lmul, [], nS) :: (106, .iload_n 1, [], nS) :: (107, .lshr, [], nS) :: (108, .l2i, [], nS) :: (109, .goto 7, [116], nS) :: L_X6_odds_112
def L_X6_odds_82 : List Item := (82, .iload 5, [], nS) :: (84, .iload 7, [], nS) :: (86, .iadd, [], nS) :: (87, .istore 5, [], nS) :: (89, .iinc 6 1, [], nS) :: (92, .goto (-46), [46], nS) :: L_X6_odds_95
def L_X6_odds_46 : List Item := (46, .iload 6, [], nS) :: (48, .iconst 1, [], nS) :: (49, .iload_n 1, [], nS) :: (50, .ishl, [], nS) :: (51, .if_icmp .ge 44, [95], nS) :: (54, .iconst 0, [], nS) :: (55, .aload_n 0, [], nS) :: (56, .getfield 7, [6, 0, 1], nS) :: (59, .iconst 0, [], nS) :: (60, .iaload, [], nS) :: (61, .iload_n 2, [], nS) :: (62, .iload 6, [], nS) :: (64, .invokestatic 223, [0, 1, 0, 0], S_J6_bitCount_0f7a4) :: (67, .imul, [], nS) :: (68, .isub, [], nS) :: (69, .invokestatic 277, [2], nS) :: (72, .istore 7, [], nS) :: (74, .iload 7, [], nS) :: (76, .ifCond .le 6, [82], nS) :: (79, .iinc 4 1, [], nS) :: L_X6_odds_82
def L_X6_odds_37 : List Item := (37, .iconst 0, [], nS) :: (38, .istore 4, [], nS) :: (40, .iconst 0, [], nS) :: (41, .istore 5, [], nS) :: (43, .iconst 0, [], nS) :: (44, .istore 6, [], nS) :: (46, .nop, [], nS) :: L_X6_odds_46
def L_X6_odds_29 : List Item := (29, .aload_n 0, [], nS) :: (30, .sipush (-1002), [], nS) :: (33, .invokevirtual 82, [1, 6, 0, 0], S_X6_no) :: (36, .ireturn, [], nS) :: L_X6_odds_37
def L_X6_odds_0 : List Item := (0, .iload_n 1, [], nS) :: (1, .iconst 0, [], nS) :: (2, .bipush 12, [], nS) :: (4, .invokestatic 72, [0, 3, 0, 0], S_X6_within) :: (7, .ifCond .eq 22, [29], nS) :: (10, .iload_n 2, [], nS) :: (11, .iconst 0, [], nS) :: (12, .bipush 99, [], nS) :: (14, .invokestatic 72, [0, 3, 0, 0], S_X6_within) :: (17, .ifCond .eq 12, [29], nS) :: (20, .iload_n 3, [], nS) :: (21, .iconst 0, [], nS) :: (22, .iconst 1, [], nS) :: (23, .invokestatic 72, [0, 3, 0, 0], S_X6_within) :: (26, .ifCond .ne 11, [37], nS) :: L_X6_odds_29
def L_X6_odds : List Item := L_X6_odds_0
theorem ok_X6_odds : okB cX6_odds L_X6_odds = true := by decide +kernel
theorem lk_X6_odds (l : Launch) : LKs l RX6 2 false L_X6_odds := ⟨trivial, trivial, trivial, Or.inl ⟨_, _, _, _, _, _, _, _, rfl, c_X6_within l, yv_X6_within, by decide, gT_of (List.mem_of_getElem? (i := 1004) (by decide +kernel)) rfl⟩, trivial, trivial, trivial, trivial, Or.inl ⟨_, _, _, _, _, _, _, _, rfl, c_X6_within l, yv_X6_within, by decide, gT_of (List.mem_of_getElem? (i := 1004) (by decide +kernel)) rfl⟩, trivial, trivial, trivial, trivial, Or.inl ⟨_, _, _, _, _, _, _, _, rfl, c_X6_within l, yv_X6_within, by decide, gT_of (List.mem_of_getElem? (i := 1004) (by decide +kernel)) rfl⟩, trivial, trivial, trivial, ⟨_, _, _, _, _, _, _, _, _, rfl, c_X6_no l, Or.inl ⟨by decide, yv_X6_no⟩, by decide, gT_of (List.mem_of_getElem? (i := 1007) (by decide +kernel)) rfl⟩, trivial, trivial, trivial, trivial, trivial, trivial, trivial, trivial, trivial, trivial, trivial, trivial, trivial, trivial, trivial, ⟨_, _, _, rfl, ⟨(RX6, TX6, 26), rfl, by decide, gT_of (List.mem_of_getElem? (i := 918) (by decide +kernel)) rfl⟩, rfl⟩, trivial, trivial, trivial, trivial, Or.inl ⟨_, _, _, _, _, _, _, _, rfl, c_J6_bitCount_0f7a4 l, yv_J6_bitCount_0f7a4, by decide, gT_of (List.mem_of_getElem? (i := 1196) (by decide +kernel)) rfl⟩, trivial, trivial, Or.inr (Or.inr (Or.inl ⟨rfl, gT_of (List.mem_of_getElem? (i := 1326) (by decide +kernel)) rfl⟩)), trivial, trivial, trivial, trivial, trivial, trivial, trivial, trivial, trivial, trivial, trivial, trivial, ⟨_, rfl, gT_of (List.mem_of_getElem? (i := 1347) (by decide +kernel)) rfl⟩, trivial, trivial, trivial, trivial, trivial, trivial, trivial, trivial, trivial, trivial, trivial, trivial⟩
theorem b_X6_odds_0 : atL L_X6_odds 0 = L_X6_odds_0 := rfl
theorem b_X6_odds_29 : atL L_X6_odds 29 = L_X6_odds_29 := rfl
theorem b_X6_odds_37 : atL L_X6_odds 37 = L_X6_odds_37 := rfl
theorem b_X6_odds_46 : atL L_X6_odds 46 = L_X6_odds_46 := rfl
theorem b_X6_odds_82 : atL L_X6_odds 82 = L_X6_odds_82 := rfl
theorem b_X6_odds_95 : atL L_X6_odds 95 = L_X6_odds_95 := rfl
theorem b_X6_odds_112 : atL L_X6_odds 112 = L_X6_odds_112 := rfl
theorem b_X6_odds_116 : atL L_X6_odds 116 = L_X6_odds_116 := rfl
theorem a_X6_odds_29 : afw L_X6_odds [46] 29 = L_X6_odds_29 := rfl
theorem a_X6_odds_37 : afw L_X6_odds [46] 37 = L_X6_odds_37 := rfl
theorem a_X6_odds_82 : afw L_X6_odds [46] 82 = L_X6_odds_82 := rfl
theorem a_X6_odds_95 : afw L_X6_odds [46] 95 = L_X6_odds_95 := rfl
theorem a_X6_odds_112 : afw L_X6_odds [46] 112 = L_X6_odds_112 := rfl
theorem a_X6_odds_116 : afw L_X6_odds [46] 116 = L_X6_odds_116 := rfl
theorem a_X6_odds_46 : afw L_X6_odds [46] 46 = [] := rfl
theorem yv_X6_odds : YV yX6_odds cX6_odds 8 (some .int) 3 6 := ⟨⟨gT_of (List.mem_of_getElem? (i := 1346) (by decide +kernel)) rfl, gT_of (List.mem_of_getElem? (i := 74) (by decide +kernel)) rfl, ⟨by decide, by decide⟩, by decide +kernel, by decide⟩, gT_of (List.mem_of_getElem? (i := 1344) (by decide +kernel)) rfl, gT_of (List.mem_of_getElem? (i := 1345) (by decide +kernel)) rfl, rfl⟩
theorem u_X6_odds_0 : L_X6_odds_0 = (0, .iload_n 1, [], nS) :: (1, .iconst 0, [], nS) :: (2, .bipush 12, [], nS) :: (4, .invokestatic 72, [0, 3, 0, 0], S_X6_within) :: (7, .ifCond .eq 22, [29], nS) :: (10, .iload_n 2, [], nS) :: (11, .iconst 0, [], nS) :: (12, .bipush 99, [], nS) :: (14, .invokestatic 72, [0, 3, 0, 0], S_X6_within) :: (17, .ifCond .eq 12, [29], nS) :: (20, .iload_n 3, [], nS) :: (21, .iconst 0, [], nS) :: (22, .iconst 1, [], nS) :: (23, .invokestatic 72, [0, 3, 0, 0], S_X6_within) :: (26, .ifCond .ne 11, [37], nS) :: L_X6_odds_29 := nr rfl
theorem u_X6_odds_29 : L_X6_odds_29 = (29, .aload_n 0, [], nS) :: (30, .sipush (-1002), [], nS) :: (33, .invokevirtual 82, [1, 6, 0, 0], S_X6_no) :: (36, .ireturn, [], nS) :: L_X6_odds_37 := nr rfl
theorem u_X6_odds_37 : L_X6_odds_37 = (37, .iconst 0, [], nS) :: (38, .istore 4, [], nS) :: (40, .iconst 0, [], nS) :: (41, .istore 5, [], nS) :: (43, .iconst 0, [], nS) :: (44, .istore 6, [], nS) :: (46, .nop, [], nS) :: L_X6_odds_46 := nr rfl
theorem u_X6_odds_46 : L_X6_odds_46 = (46, .iload 6, [], nS) :: (48, .iconst 1, [], nS) :: (49, .iload_n 1, [], nS) :: (50, .ishl, [], nS) :: (51, .if_icmp .ge 44, [95], nS) :: (54, .iconst 0, [], nS) :: (55, .aload_n 0, [], nS) :: (56, .getfield 7, [6, 0, 1], nS) :: (59, .iconst 0, [], nS) :: (60, .iaload, [], nS) :: (61, .iload_n 2, [], nS) :: (62, .iload 6, [], nS) :: (64, .invokestatic 223, [0, 1, 0, 0], S_J6_bitCount_0f7a4) :: (67, .imul, [], nS) :: (68, .isub, [], nS) :: (69, .invokestatic 277, [2], nS) :: (72, .istore 7, [], nS) :: (74, .iload 7, [], nS) :: (76, .ifCond .le 6, [82], nS) :: (79, .iinc 4 1, [], nS) :: L_X6_odds_82 := nr rfl
theorem u_X6_odds_82 : L_X6_odds_82 = (82, .iload 5, [], nS) :: (84, .iload 7, [], nS) :: (86, .iadd, [], nS) :: (87, .istore 5, [], nS) :: (89, .iinc 6 1, [], nS) :: (92, .goto (-46), [46], nS) :: L_X6_odds_95 := nr rfl
theorem u_X6_odds_95 : L_X6_odds_95 = (95, .iload_n 3, [], nS) :: (96, .ifCond .ne 16, [112], nS) :: (99, .ldc2_w 283, [1], nS) :: (102, .iload 4, [], nS) :: (104, .i2l, [], nS) :: (105, .lmul, [], nS) :: (106, .iload_n 1, [], nS) :: (107, .lshr, [], nS) :: (108, .l2i, [], nS) :: (109, .goto 7, [116], nS) :: L_X6_odds_112 := nr rfl
theorem u_X6_odds_112 : L_X6_odds_112 = (112, .iload 5, [], nS) :: (114, .iload_n 1, [], nS) :: (115, .ishr, [], nS) :: L_X6_odds_116 := nr rfl
theorem u_X6_odds_116 : L_X6_odds_116 = (116, .ireturn, [], nS) :: [] := nr rfl
theorem z_X6_odds_0 : atL L_X6_odds 0 = L_X6_odds_0 := nr rfl
theorem z_X6_odds_29 : atL L_X6_odds 29 = L_X6_odds_29 := nr rfl
theorem z_X6_odds_37 : atL L_X6_odds 37 = L_X6_odds_37 := nr rfl
theorem z_X6_odds_46 : atL L_X6_odds 46 = L_X6_odds_46 := nr rfl
theorem z_X6_odds_82 : atL L_X6_odds 82 = L_X6_odds_82 := nr rfl
theorem z_X6_odds_95 : atL L_X6_odds 95 = L_X6_odds_95 := nr rfl
theorem z_X6_odds_112 : atL L_X6_odds 112 = L_X6_odds_112 := nr rfl
theorem z_X6_odds_116 : atL L_X6_odds 116 = L_X6_odds_116 := nr rfl
theorem j_X6_odds_29 {G : List Item → SpS → List Value → List Value → AH → Prop} {J : Nat → SpS → List Value → List Value → AH → Prop} {S : SpS} {lv st : List Value} {h : AH} : jmp G J (afw L_X6_odds [46] 29) 29 S lv st h = G L_X6_odds_29 S lv st h := nr rfl
theorem j_X6_odds_37 {G : List Item → SpS → List Value → List Value → AH → Prop} {J : Nat → SpS → List Value → List Value → AH → Prop} {S : SpS} {lv st : List Value} {h : AH} : jmp G J (afw L_X6_odds [46] 37) 37 S lv st h = G L_X6_odds_37 S lv st h := nr rfl
theorem j_X6_odds_82 {G : List Item → SpS → List Value → List Value → AH → Prop} {J : Nat → SpS → List Value → List Value → AH → Prop} {S : SpS} {lv st : List Value} {h : AH} : jmp G J (afw L_X6_odds [46] 82) 82 S lv st h = G L_X6_odds_82 S lv st h := nr rfl
theorem j_X6_odds_95 {G : List Item → SpS → List Value → List Value → AH → Prop} {J : Nat → SpS → List Value → List Value → AH → Prop} {S : SpS} {lv st : List Value} {h : AH} : jmp G J (afw L_X6_odds [46] 95) 95 S lv st h = G L_X6_odds_95 S lv st h := nr rfl
theorem j_X6_odds_112 {G : List Item → SpS → List Value → List Value → AH → Prop} {J : Nat → SpS → List Value → List Value → AH → Prop} {S : SpS} {lv st : List Value} {h : AH} : jmp G J (afw L_X6_odds [46] 112) 112 S lv st h = G L_X6_odds_112 S lv st h := nr rfl
theorem j_X6_odds_116 {G : List Item → SpS → List Value → List Value → AH → Prop} {J : Nat → SpS → List Value → List Value → AH → Prop} {S : SpS} {lv st : List Value} {h : AH} : jmp G J (afw L_X6_odds [46] 116) 116 S lv st h = G L_X6_odds_116 S lv st h := nr rfl
theorem j_X6_odds_46 {G : List Item → SpS → List Value → List Value → AH → Prop} {J : Nat → SpS → List Value → List Value → AH → Prop} {S : SpS} {lv st : List Value} {h : AH} : jmp G J (afw L_X6_odds [46] 46) 46 S lv st h = J 46 S lv st h := nr rfl
theorem e_X6_odds {x : Addr} {t : Int32} {q : Int32} {w : Int32} {h : AH} {K2 : Option Value → SpS → AH → Prop} : S_X6_odds SH0 [.ref x, .int t, .int q, .int w] h K2 = (fun (K : Option Value → AH → Prop) => x = 64 ∧ XM h (fun G => g_odds G t q w) K) (fun v h' => K2 v SH0 h') := (lift_e P_X6_odds [.ref x, .int t, .int q, .int w] h K2).trans (nr rfl)
set_option maxRecDepth 100000 in
set_option maxHeartbeats 4000000 in
theorem c_X6_odds (l : Launch) : Ct l yX6_odds cX6_odds 8 (some .int) 2 0 0 S_X6_odds := by
  refine Ct0_mk L_X6_odds [46] (by decide +kernel) (by decide) ok_X6_odds (lk_X6_odds l) ?_
  intro as h K hP
  match as, hP with
  | [.ref x, .int t, .int q, .int w], ⟨hx, G, hG, hI, hK⟩ =>
  refine ⟨by simp [slotsN, Value.category], fun J hJ => ?_⟩
  subst hx
  dsimp only at hK
  have hE : estM h = vE G := hG.1
  have ho := okG_ok (okM_G hI)
  have ho2 := okG_t (okM_G hI)
  have hn : cnt (vE G) ≤ 10 := okG_n (okM_G hI)
  have c4 : gI h 64 2 = nI (cnt (vE G)) := by rw [← hE]; exact em_c (hE ▸ ho)
  by_cases hh : inI t 12
  · by_cases hh2 : inI q 99
    · by_cases hh3 : inI w 1
      · simp only [g_odds, if_pos (And.intro hh (And.intro hh2 hh3))] at hK
        have yes := hK h hG (frY_rf h)
        obtain ⟨m, hm, rfl⟩ := in_of (m := 12) (by omega) hh
        obtain ⟨Q, hQ, rfl⟩ := in_of (m := 99) (by omega) hh2
        obtain ⟨S, hS, eS0⟩ := store_n hI
        rw [ix_m (j := m) (by omega), eS0] at yes
        have gs : gI h 65 0 = nI S := (xm_s (k := 0) hE (by omega)).trans eS0
        have p := pw_12 hm
        refine hJ 0 _ _ _ _ ?_
        simp only [z_X6_odds_0, u_X6_odds_0, u_X6_odds_29, u_X6_odds_37, u_X6_odds_46, u_X6_odds_82, u_X6_odds_95, u_X6_odds_112, u_X6_odds_116, j_X6_odds_29, j_X6_odds_37, j_X6_odds_46, j_X6_odds_82, j_X6_odds_95, j_X6_odds_112, j_X6_odds_116, ev_iload_n1, ev_iconst, ev_bipush, ev_callS3, ev_if_eq, ev_iload_n2, ev_iload_n3, ev_if_ne, ev_aload_n0, ev_sipush, ev_callV1, ev_iret, ro_i, ro_z, ev_istore4, ev_istore5, ev_istore6, ev_nop, ev_iload6, ev_ishl, ev_ic_ge, ev_getfR, ev_iaload, ev_callS1, ev_imul, ev_isub, ev_max, ev_istore7, ev_iload7, ev_if_le, ev_iinc4, ev_iload5, ev_iadd, ev_iinc6, ev_goto, ev_ldc2_w, ev_iload4, ev_i2l, ev_lmul, ev_lshr, ev_l2i, ev_ishr, ↓e_J6_bitCount_0f7a4, ↓e_X6_no, ↓e_X6_within, vq3_0, vq3_1, vq3_2, cq_0, cq_1, cq_2, capO_z, kb_6, kb_7, kb_8, kb_9, kb_10, kb_12, kb_16, kb_20, kb_21, kb_30, kb_32, kb_40, kb_48, kb_50, kb_57, kb_59, kb_60, kb_63, kb_70, kb_78, kb_81, kb_82, kb_84, kb_97, kb_99, kb_100, kb_101, kb_119, kb_120, kb_122, ki_m1, ki_0, ki_1, ki_2, ki_3, ki_4, ki_5, ki_6, ki_7, ki_8, ki_9, ki_10, ki_11, ki_12, ki_13, ki_14, ki_15, ki_16, ki_17, ki_18, ki_19, ki_20, ki_21, ki_22, ki_23, ki_24, ki_25, ki_26, ki_27, ki_28, ki_29, ki_30, ki_31, ki_32, ki_33, ki_34, ki_35, ki_36, ki_37, ki_38, ki_39, ki_40, ki_41, ki_42, ki_43, ki_44, ki_45, ki_46, ki_47, ki_48, ki_49, ki_50, ki_51, ki_52, ki_53, ki_54, ki_55, ki_56, ki_57, ki_58, ki_59, ki_60, ki_61, ki_62, ki_63, ks_m2000, ks_m1006, ks_m1005, ks_m1004, ks_m1003, ks_m1002, ks_m1000, ks_200, ks_250, ks_255, ks_256, ks_320, ks_660, ks_999, ks_1000, ks_9999, ks_12345, ne_2, ne_10, t_0, t_40, t_41, t_42, t_43, t_44, t_45, t_46, t_47, t_64, t_65, t_66, t_67, t_68, t_69, t_70, t_71, t_72, t_73, t_74, t_75, t_76, t_77, t_78, t_79, t_80, t_81, t_82, r_0_0, r_0_1, r_0_2, r_0_4, r_0_5, r_0_6, r_0_7, r_40_0, r_40_5, r_44_0, r_44_1, r_64_0, r_64_1, r_64_3, r_64_4, r_64_5, r_64_6, r_64_7, r_64_8, r_64_9, r_64_12, r_64_17, r_64_18, r_64_19, r_64_20, r_64_22, r_64_23, r_64_24, r_64_25, t_1, t_14, t_27, t_2, t_15, t_28, Nat.reduceEqDiff, ne_eq, not_false_eq_true, false_implies, true_implies, implies_true, Nat.reduceAdd, Nat.reduceLeDiff, Nat.reduceLT, Nat.reduceMul, or_true, true_or, if_true, if_false, not_true_eq_false, and_self, bF, Nat.reduceBEq, Bool.false_and, Bool.and_false, Bool.or_self, Bool.or_false, Bool.false_or, Bool.false_eq_true, Int.reduceAdd, Bool.and_self, Bool.true_and, Bool.and_true, beq_self_eq_true, not_not_, i10_, i01_, List.length_nil, List.length_cons, true_and, and_true, false_and, and_false, kl_i, kl_a, kl_n, kl_l, tl_s, tl_n, rv_S, pd_0, pd_e, pd_r, pd_i, pd_l, b2i_t hh, b2i_t hh2, b2i_t hh3, one_z]
        refine dn (P := fun r => ∀ v, J 46 SH0 [.ref 64, .int (nI m), .int (nI Q), .int w, .int (nI (rowN S Q r)), .int (nI (rowD S Q r)), .int (nI r), v] [] h) (2 ^ m) ?_ (fun r hr ih v => ?_) .null
        · intro v
          refine hJ 46 _ _ _ _ ?_
          simp only [z_X6_odds_46, u_X6_odds_0, u_X6_odds_29, u_X6_odds_37, u_X6_odds_46, u_X6_odds_82, u_X6_odds_95, u_X6_odds_112, u_X6_odds_116, j_X6_odds_29, j_X6_odds_37, j_X6_odds_46, j_X6_odds_82, j_X6_odds_95, j_X6_odds_112, j_X6_odds_116, ev_iload_n1, ev_iconst, ev_bipush, ev_callS3, ev_if_eq, ev_iload_n2, ev_iload_n3, ev_if_ne, ev_aload_n0, ev_sipush, ev_callV1, ev_iret, ro_i, ro_z, ev_istore4, ev_istore5, ev_istore6, ev_nop, ev_iload6, ev_ishl, ev_ic_ge, ev_getfR, ev_iaload, ev_callS1, ev_imul, ev_isub, ev_max, ev_istore7, ev_iload7, ev_if_le, ev_iinc4, ev_iload5, ev_iadd, ev_iinc6, ev_goto, ev_ldc2_w, ev_iload4, ev_i2l, ev_lmul, ev_lshr, ev_l2i, ev_ishr, ↓e_J6_bitCount_0f7a4, ↓e_X6_no, ↓e_X6_within, vq3_0, vq3_1, vq3_2, cq_0, cq_1, cq_2, capO_z, kb_6, kb_7, kb_8, kb_9, kb_10, kb_12, kb_16, kb_20, kb_21, kb_30, kb_32, kb_40, kb_48, kb_50, kb_57, kb_59, kb_60, kb_63, kb_70, kb_78, kb_81, kb_82, kb_84, kb_97, kb_99, kb_100, kb_101, kb_119, kb_120, kb_122, ki_m1, ki_0, ki_1, ki_2, ki_3, ki_4, ki_5, ki_6, ki_7, ki_8, ki_9, ki_10, ki_11, ki_12, ki_13, ki_14, ki_15, ki_16, ki_17, ki_18, ki_19, ki_20, ki_21, ki_22, ki_23, ki_24, ki_25, ki_26, ki_27, ki_28, ki_29, ki_30, ki_31, ki_32, ki_33, ki_34, ki_35, ki_36, ki_37, ki_38, ki_39, ki_40, ki_41, ki_42, ki_43, ki_44, ki_45, ki_46, ki_47, ki_48, ki_49, ki_50, ki_51, ki_52, ki_53, ki_54, ki_55, ki_56, ki_57, ki_58, ki_59, ki_60, ki_61, ki_62, ki_63, ks_m2000, ks_m1006, ks_m1005, ks_m1004, ks_m1003, ks_m1002, ks_m1000, ks_200, ks_250, ks_255, ks_256, ks_320, ks_660, ks_999, ks_1000, ks_9999, ks_12345, ne_2, ne_10, t_0, t_40, t_41, t_42, t_43, t_44, t_45, t_46, t_47, t_64, t_65, t_66, t_67, t_68, t_69, t_70, t_71, t_72, t_73, t_74, t_75, t_76, t_77, t_78, t_79, t_80, t_81, t_82, r_0_0, r_0_1, r_0_2, r_0_4, r_0_5, r_0_6, r_0_7, r_40_0, r_40_5, r_44_0, r_44_1, r_64_0, r_64_1, r_64_3, r_64_4, r_64_5, r_64_6, r_64_7, r_64_8, r_64_9, r_64_12, r_64_17, r_64_18, r_64_19, r_64_20, r_64_22, r_64_23, r_64_24, r_64_25, t_1, t_14, t_27, t_2, t_15, t_28, Nat.reduceEqDiff, ne_eq, not_false_eq_true, false_implies, true_implies, implies_true, Nat.reduceAdd, Nat.reduceLeDiff, Nat.reduceLT, Nat.reduceMul, or_true, true_or, if_true, if_false, not_true_eq_false, and_self, bF, Nat.reduceBEq, Bool.false_and, Bool.and_false, Bool.or_self, Bool.or_false, Bool.false_or, Bool.false_eq_true, Int.reduceAdd, Bool.and_self, Bool.true_and, Bool.and_true, beq_self_eq_true, not_not_, i10_, i01_, List.length_nil, List.length_cons, true_and, and_true, false_and, and_false, kl_i, kl_a, kl_n, kl_l, tl_s, tl_n, rv_S, pd_0, pd_e, pd_r, pd_i, pd_l, shl_e m (by omega), lpT (show 2 ^ m < 2147483648 by omega)]
          refine ⟨fun z => ?_, fun z x1_ e1_ => ?_⟩
          · rw [odd_1 hS hQ hm w z] at yes; exact yes
          · subst e1_
            rw [odd_0 hS hQ hm w z] at yes; exact yes
        · have pb := popR_b 12 r
          have lf := left_e hS hQ pb
          have sD : rowD S Q (r + 1) = rowD S Q r + (S - Q * popR 12 r) := rfl
          have sN : rowN S Q (r + 1) = rowN S Q r + (if 0 < S - Q * popR 12 r then 1 else 0) := rfl
          rw [sD, sN] at ih
          refine hJ 46 _ _ _ _ ?_
          simp only [z_X6_odds_46, u_X6_odds_0, u_X6_odds_29, u_X6_odds_37, u_X6_odds_46, u_X6_odds_82, u_X6_odds_95, u_X6_odds_112, u_X6_odds_116, j_X6_odds_29, j_X6_odds_37, j_X6_odds_46, j_X6_odds_82, j_X6_odds_95, j_X6_odds_112, j_X6_odds_116, ev_iload_n1, ev_iconst, ev_bipush, ev_callS3, ev_if_eq, ev_iload_n2, ev_iload_n3, ev_if_ne, ev_aload_n0, ev_sipush, ev_callV1, ev_iret, ro_i, ro_z, ev_istore4, ev_istore5, ev_istore6, ev_nop, ev_iload6, ev_ishl, ev_ic_ge, ev_getfR, ev_iaload, ev_callS1, ev_imul, ev_isub, ev_max, ev_istore7, ev_iload7, ev_if_le, ev_iinc4, ev_iload5, ev_iadd, ev_iinc6, ev_goto, ev_ldc2_w, ev_iload4, ev_i2l, ev_lmul, ev_lshr, ev_l2i, ev_ishr, ↓e_J6_bitCount_0f7a4, ↓e_X6_no, ↓e_X6_within, vq3_0, vq3_1, vq3_2, cq_0, cq_1, cq_2, capO_z, kb_6, kb_7, kb_8, kb_9, kb_10, kb_12, kb_16, kb_20, kb_21, kb_30, kb_32, kb_40, kb_48, kb_50, kb_57, kb_59, kb_60, kb_63, kb_70, kb_78, kb_81, kb_82, kb_84, kb_97, kb_99, kb_100, kb_101, kb_119, kb_120, kb_122, ki_m1, ki_0, ki_1, ki_2, ki_3, ki_4, ki_5, ki_6, ki_7, ki_8, ki_9, ki_10, ki_11, ki_12, ki_13, ki_14, ki_15, ki_16, ki_17, ki_18, ki_19, ki_20, ki_21, ki_22, ki_23, ki_24, ki_25, ki_26, ki_27, ki_28, ki_29, ki_30, ki_31, ki_32, ki_33, ki_34, ki_35, ki_36, ki_37, ki_38, ki_39, ki_40, ki_41, ki_42, ki_43, ki_44, ki_45, ki_46, ki_47, ki_48, ki_49, ki_50, ki_51, ki_52, ki_53, ki_54, ki_55, ki_56, ki_57, ki_58, ki_59, ki_60, ki_61, ki_62, ki_63, ks_m2000, ks_m1006, ks_m1005, ks_m1004, ks_m1003, ks_m1002, ks_m1000, ks_200, ks_250, ks_255, ks_256, ks_320, ks_660, ks_999, ks_1000, ks_9999, ks_12345, ne_2, ne_10, t_0, t_40, t_41, t_42, t_43, t_44, t_45, t_46, t_47, t_64, t_65, t_66, t_67, t_68, t_69, t_70, t_71, t_72, t_73, t_74, t_75, t_76, t_77, t_78, t_79, t_80, t_81, t_82, r_0_0, r_0_1, r_0_2, r_0_4, r_0_5, r_0_6, r_0_7, r_40_0, r_40_5, r_44_0, r_44_1, r_64_0, r_64_1, r_64_3, r_64_4, r_64_5, r_64_6, r_64_7, r_64_8, r_64_9, r_64_12, r_64_17, r_64_18, r_64_19, r_64_20, r_64_22, r_64_23, r_64_24, r_64_25, t_1, t_14, t_27, t_2, t_15, t_28, Nat.reduceEqDiff, ne_eq, not_false_eq_true, false_implies, true_implies, implies_true, Nat.reduceAdd, Nat.reduceLeDiff, Nat.reduceLT, Nat.reduceMul, or_true, true_or, if_true, if_false, not_true_eq_false, and_self, bF, Nat.reduceBEq, Bool.false_and, Bool.and_false, Bool.or_self, Bool.or_false, Bool.false_or, Bool.false_eq_true, Int.reduceAdd, Bool.and_self, Bool.true_and, Bool.and_true, beq_self_eq_true, not_not_, i10_, i01_, List.length_nil, List.length_cons, true_and, and_true, false_and, and_false, kl_i, kl_a, kl_n, kl_l, tl_s, tl_n, rv_S, pd_0, pd_e, pd_r, pd_i, pd_l, shl_e m (by omega), lpF hr (show 2 ^ m < 2147483648 by omega), gs, pop_e r (by omega), nI_mul, lf, nI_ad, nI_1]
          refine ⟨fun z => ?_, fun z => ?_⟩
          · rw [show (0 : Int32) = nI 0 from rfl, le_nI (by omega) (by omega)] at z
            rw [if_neg (by omega)] at ih
            exact ih _
          · rw [show (0 : Int32) = nI 0 from rfl, le_nI (by omega) (by omega)] at z
            rw [if_pos (by omega)] at ih
            exact ih _
      · simp only [g_odds, if_neg (fun z : inI t 12 ∧ inI q 99 ∧ inI w 1 => hh3 z.2.2), noG] at hK
        refine hJ 0 _ _ _ _ ?_
        simp only [z_X6_odds_0, u_X6_odds_0, u_X6_odds_29, u_X6_odds_37, u_X6_odds_46, u_X6_odds_82, u_X6_odds_95, u_X6_odds_112, u_X6_odds_116, j_X6_odds_29, j_X6_odds_37, j_X6_odds_46, j_X6_odds_82, j_X6_odds_95, j_X6_odds_112, j_X6_odds_116, ev_iload_n1, ev_iconst, ev_bipush, ev_callS3, ev_if_eq, ev_iload_n2, ev_iload_n3, ev_if_ne, ev_aload_n0, ev_sipush, ev_callV1, ev_iret, ro_i, ro_z, ev_istore4, ev_istore5, ev_istore6, ev_nop, ev_iload6, ev_ishl, ev_ic_ge, ev_getfR, ev_iaload, ev_callS1, ev_imul, ev_isub, ev_max, ev_istore7, ev_iload7, ev_if_le, ev_iinc4, ev_iload5, ev_iadd, ev_iinc6, ev_goto, ev_ldc2_w, ev_iload4, ev_i2l, ev_lmul, ev_lshr, ev_l2i, ev_ishr, ↓e_J6_bitCount_0f7a4, ↓e_X6_no, ↓e_X6_within, vq3_0, vq3_1, vq3_2, cq_0, cq_1, cq_2, capO_z, kb_6, kb_7, kb_8, kb_9, kb_10, kb_12, kb_16, kb_20, kb_21, kb_30, kb_32, kb_40, kb_48, kb_50, kb_57, kb_59, kb_60, kb_63, kb_70, kb_78, kb_81, kb_82, kb_84, kb_97, kb_99, kb_100, kb_101, kb_119, kb_120, kb_122, ki_m1, ki_0, ki_1, ki_2, ki_3, ki_4, ki_5, ki_6, ki_7, ki_8, ki_9, ki_10, ki_11, ki_12, ki_13, ki_14, ki_15, ki_16, ki_17, ki_18, ki_19, ki_20, ki_21, ki_22, ki_23, ki_24, ki_25, ki_26, ki_27, ki_28, ki_29, ki_30, ki_31, ki_32, ki_33, ki_34, ki_35, ki_36, ki_37, ki_38, ki_39, ki_40, ki_41, ki_42, ki_43, ki_44, ki_45, ki_46, ki_47, ki_48, ki_49, ki_50, ki_51, ki_52, ki_53, ki_54, ki_55, ki_56, ki_57, ki_58, ki_59, ki_60, ki_61, ki_62, ki_63, ks_m2000, ks_m1006, ks_m1005, ks_m1004, ks_m1003, ks_m1002, ks_m1000, ks_200, ks_250, ks_255, ks_256, ks_320, ks_660, ks_999, ks_1000, ks_9999, ks_12345, ne_2, ne_10, t_0, t_40, t_41, t_42, t_43, t_44, t_45, t_46, t_47, t_64, t_65, t_66, t_67, t_68, t_69, t_70, t_71, t_72, t_73, t_74, t_75, t_76, t_77, t_78, t_79, t_80, t_81, t_82, r_0_0, r_0_1, r_0_2, r_0_4, r_0_5, r_0_6, r_0_7, r_40_0, r_40_5, r_44_0, r_44_1, r_64_0, r_64_1, r_64_3, r_64_4, r_64_5, r_64_6, r_64_7, r_64_8, r_64_9, r_64_12, r_64_17, r_64_18, r_64_19, r_64_20, r_64_22, r_64_23, r_64_24, r_64_25, t_1, t_14, t_27, t_2, t_15, t_28, Nat.reduceEqDiff, ne_eq, not_false_eq_true, false_implies, true_implies, implies_true, Nat.reduceAdd, Nat.reduceLeDiff, Nat.reduceLT, Nat.reduceMul, or_true, true_or, if_true, if_false, not_true_eq_false, and_self, bF, Nat.reduceBEq, Bool.false_and, Bool.and_false, Bool.or_self, Bool.or_false, Bool.false_or, Bool.false_eq_true, Int.reduceAdd, Bool.and_self, Bool.true_and, Bool.and_true, beq_self_eq_true, not_not_, i10_, i01_, List.length_nil, List.length_cons, true_and, and_true, false_and, and_false, kl_i, kl_a, kl_n, kl_l, tl_s, tl_n, rv_S, pd_0, pd_e, pd_r, pd_i, pd_l, b2i_t hh, b2i_t hh2, b2i_f hh3, one_z, zero_z, ic_2]
        exact hK _ (simM_ref hI hG kc2) (frY_ref h _)
    · simp only [g_odds, if_neg (fun z : inI t 12 ∧ inI q 99 ∧ inI w 1 => hh2 z.2.1), noG] at hK
      refine hJ 0 _ _ _ _ ?_
      simp only [z_X6_odds_0, u_X6_odds_0, u_X6_odds_29, u_X6_odds_37, u_X6_odds_46, u_X6_odds_82, u_X6_odds_95, u_X6_odds_112, u_X6_odds_116, j_X6_odds_29, j_X6_odds_37, j_X6_odds_46, j_X6_odds_82, j_X6_odds_95, j_X6_odds_112, j_X6_odds_116, ev_iload_n1, ev_iconst, ev_bipush, ev_callS3, ev_if_eq, ev_iload_n2, ev_iload_n3, ev_if_ne, ev_aload_n0, ev_sipush, ev_callV1, ev_iret, ro_i, ro_z, ev_istore4, ev_istore5, ev_istore6, ev_nop, ev_iload6, ev_ishl, ev_ic_ge, ev_getfR, ev_iaload, ev_callS1, ev_imul, ev_isub, ev_max, ev_istore7, ev_iload7, ev_if_le, ev_iinc4, ev_iload5, ev_iadd, ev_iinc6, ev_goto, ev_ldc2_w, ev_iload4, ev_i2l, ev_lmul, ev_lshr, ev_l2i, ev_ishr, ↓e_J6_bitCount_0f7a4, ↓e_X6_no, ↓e_X6_within, vq3_0, vq3_1, vq3_2, cq_0, cq_1, cq_2, capO_z, kb_6, kb_7, kb_8, kb_9, kb_10, kb_12, kb_16, kb_20, kb_21, kb_30, kb_32, kb_40, kb_48, kb_50, kb_57, kb_59, kb_60, kb_63, kb_70, kb_78, kb_81, kb_82, kb_84, kb_97, kb_99, kb_100, kb_101, kb_119, kb_120, kb_122, ki_m1, ki_0, ki_1, ki_2, ki_3, ki_4, ki_5, ki_6, ki_7, ki_8, ki_9, ki_10, ki_11, ki_12, ki_13, ki_14, ki_15, ki_16, ki_17, ki_18, ki_19, ki_20, ki_21, ki_22, ki_23, ki_24, ki_25, ki_26, ki_27, ki_28, ki_29, ki_30, ki_31, ki_32, ki_33, ki_34, ki_35, ki_36, ki_37, ki_38, ki_39, ki_40, ki_41, ki_42, ki_43, ki_44, ki_45, ki_46, ki_47, ki_48, ki_49, ki_50, ki_51, ki_52, ki_53, ki_54, ki_55, ki_56, ki_57, ki_58, ki_59, ki_60, ki_61, ki_62, ki_63, ks_m2000, ks_m1006, ks_m1005, ks_m1004, ks_m1003, ks_m1002, ks_m1000, ks_200, ks_250, ks_255, ks_256, ks_320, ks_660, ks_999, ks_1000, ks_9999, ks_12345, ne_2, ne_10, t_0, t_40, t_41, t_42, t_43, t_44, t_45, t_46, t_47, t_64, t_65, t_66, t_67, t_68, t_69, t_70, t_71, t_72, t_73, t_74, t_75, t_76, t_77, t_78, t_79, t_80, t_81, t_82, r_0_0, r_0_1, r_0_2, r_0_4, r_0_5, r_0_6, r_0_7, r_40_0, r_40_5, r_44_0, r_44_1, r_64_0, r_64_1, r_64_3, r_64_4, r_64_5, r_64_6, r_64_7, r_64_8, r_64_9, r_64_12, r_64_17, r_64_18, r_64_19, r_64_20, r_64_22, r_64_23, r_64_24, r_64_25, t_1, t_14, t_27, t_2, t_15, t_28, Nat.reduceEqDiff, ne_eq, not_false_eq_true, false_implies, true_implies, implies_true, Nat.reduceAdd, Nat.reduceLeDiff, Nat.reduceLT, Nat.reduceMul, or_true, true_or, if_true, if_false, not_true_eq_false, and_self, bF, Nat.reduceBEq, Bool.false_and, Bool.and_false, Bool.or_self, Bool.or_false, Bool.false_or, Bool.false_eq_true, Int.reduceAdd, Bool.and_self, Bool.true_and, Bool.and_true, beq_self_eq_true, not_not_, i10_, i01_, List.length_nil, List.length_cons, true_and, and_true, false_and, and_false, kl_i, kl_a, kl_n, kl_l, tl_s, tl_n, rv_S, pd_0, pd_e, pd_r, pd_i, pd_l, b2i_t hh, b2i_f hh2, one_z, zero_z, ic_2]
      exact hK _ (simM_ref hI hG kc2) (frY_ref h _)
  · simp only [g_odds, if_neg (fun z : inI t 12 ∧ inI q 99 ∧ inI w 1 => hh z.1), noG] at hK
    refine hJ 0 _ _ _ _ ?_
    simp only [z_X6_odds_0, u_X6_odds_0, u_X6_odds_29, u_X6_odds_37, u_X6_odds_46, u_X6_odds_82, u_X6_odds_95, u_X6_odds_112, u_X6_odds_116, j_X6_odds_29, j_X6_odds_37, j_X6_odds_46, j_X6_odds_82, j_X6_odds_95, j_X6_odds_112, j_X6_odds_116, ev_iload_n1, ev_iconst, ev_bipush, ev_callS3, ev_if_eq, ev_iload_n2, ev_iload_n3, ev_if_ne, ev_aload_n0, ev_sipush, ev_callV1, ev_iret, ro_i, ro_z, ev_istore4, ev_istore5, ev_istore6, ev_nop, ev_iload6, ev_ishl, ev_ic_ge, ev_getfR, ev_iaload, ev_callS1, ev_imul, ev_isub, ev_max, ev_istore7, ev_iload7, ev_if_le, ev_iinc4, ev_iload5, ev_iadd, ev_iinc6, ev_goto, ev_ldc2_w, ev_iload4, ev_i2l, ev_lmul, ev_lshr, ev_l2i, ev_ishr, ↓e_J6_bitCount_0f7a4, ↓e_X6_no, ↓e_X6_within, vq3_0, vq3_1, vq3_2, cq_0, cq_1, cq_2, capO_z, kb_6, kb_7, kb_8, kb_9, kb_10, kb_12, kb_16, kb_20, kb_21, kb_30, kb_32, kb_40, kb_48, kb_50, kb_57, kb_59, kb_60, kb_63, kb_70, kb_78, kb_81, kb_82, kb_84, kb_97, kb_99, kb_100, kb_101, kb_119, kb_120, kb_122, ki_m1, ki_0, ki_1, ki_2, ki_3, ki_4, ki_5, ki_6, ki_7, ki_8, ki_9, ki_10, ki_11, ki_12, ki_13, ki_14, ki_15, ki_16, ki_17, ki_18, ki_19, ki_20, ki_21, ki_22, ki_23, ki_24, ki_25, ki_26, ki_27, ki_28, ki_29, ki_30, ki_31, ki_32, ki_33, ki_34, ki_35, ki_36, ki_37, ki_38, ki_39, ki_40, ki_41, ki_42, ki_43, ki_44, ki_45, ki_46, ki_47, ki_48, ki_49, ki_50, ki_51, ki_52, ki_53, ki_54, ki_55, ki_56, ki_57, ki_58, ki_59, ki_60, ki_61, ki_62, ki_63, ks_m2000, ks_m1006, ks_m1005, ks_m1004, ks_m1003, ks_m1002, ks_m1000, ks_200, ks_250, ks_255, ks_256, ks_320, ks_660, ks_999, ks_1000, ks_9999, ks_12345, ne_2, ne_10, t_0, t_40, t_41, t_42, t_43, t_44, t_45, t_46, t_47, t_64, t_65, t_66, t_67, t_68, t_69, t_70, t_71, t_72, t_73, t_74, t_75, t_76, t_77, t_78, t_79, t_80, t_81, t_82, r_0_0, r_0_1, r_0_2, r_0_4, r_0_5, r_0_6, r_0_7, r_40_0, r_40_5, r_44_0, r_44_1, r_64_0, r_64_1, r_64_3, r_64_4, r_64_5, r_64_6, r_64_7, r_64_8, r_64_9, r_64_12, r_64_17, r_64_18, r_64_19, r_64_20, r_64_22, r_64_23, r_64_24, r_64_25, t_1, t_14, t_27, t_2, t_15, t_28, Nat.reduceEqDiff, ne_eq, not_false_eq_true, false_implies, true_implies, implies_true, Nat.reduceAdd, Nat.reduceLeDiff, Nat.reduceLT, Nat.reduceMul, or_true, true_or, if_true, if_false, not_true_eq_false, and_self, bF, Nat.reduceBEq, Bool.false_and, Bool.and_false, Bool.or_self, Bool.or_false, Bool.false_or, Bool.false_eq_true, Int.reduceAdd, Bool.and_self, Bool.true_and, Bool.and_true, beq_self_eq_true, not_not_, i10_, i01_, List.length_nil, List.length_cons, true_and, and_true, false_and, and_false, kl_i, kl_a, kl_n, kl_l, tl_s, tl_n, rv_S, pd_0, pd_e, pd_r, pd_i, pd_l, b2i_f hh, zero_z, ic_2]
    exact hK _ (simM_ref hI hG kc2) (frY_ref h _)
