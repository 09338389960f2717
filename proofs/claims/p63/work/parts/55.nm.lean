variable {nn : Nat}
/-! ===== the class and the model as they are made ===== -/
def Se : SpS := (0, 0, fun _ => (99, 0), fun _ _ => 0)
def zH : AH := (fun _ _ => 0, fun _ _ => 0)
def S1 : SpS := nwS Se 5 0 8
def H1 : AH := zA zH 0
theorem w_S1 : nC S1 = 1 := nr rfl
theorem c_S1 : sC S1 = 8 := nr rfl
theorem y_S1 : tC S1 0 = (5, 0) := nr rfl
theorem est_step {T : SpS} {n s : Nat} (h1 : nC T = n) (h2 : sC T = s) (h3 : tC T 0 = (5, 0)) (h0 : 0 < n) (k r : Nat) : nC (pR (esS (nwS T 0 0 7) n) 0 k r) = n + 13 ∧ sC (pR (esS (nwS T 0 0 7) n) 0 k r) = s + 95 ∧ tC (pR (esS (nwS T 0 0 7) n) 0 k r) 0 = (5, 0) := by
  refine ⟨?_, ?_, ?_⟩
  · rw [w_pR, w_es, w_nw, h1]
  · rw [c_pR, c_es, c_nw, h2]
  · rw [y_pR, y_es _ _ (by rw [w_nw]; omega), y_nw, h1, if_neg (by omega), h3]
def a1 : SpS := pR (esS (nwS S1 0 0 7) 1) 0 0 2
def b1 : AH := esH (nwS S1 0 0 7) 1 (zA H1 1)
theorem f_a1 : nC a1 = 14 ∧ sC a1 = 103 ∧ tC a1 0 = (5, 0) := by
  unfold a1
  exact est_step w_S1 c_S1 y_S1 (by omega) 0 2
def a2 : SpS := pR (esS (nwS a1 0 0 7) 14) 0 1 15
def b2 : AH := esH (nwS a1 0 0 7) 14 (zA b1 14)
theorem f_a2 : nC a2 = 27 ∧ sC a2 = 198 ∧ tC a2 0 = (5, 0) := by
  unfold a2
  exact est_step f_a1.1 f_a1.2.1 f_a1.2.2 (by omega) 1 15
def a3 : SpS := pR (esS (nwS a2 0 0 7) 27) 0 2 28
def b3 : AH := esH (nwS a2 0 0 7) 27 (zA b2 27)
theorem f_a3 : nC a3 = 40 ∧ sC a3 = 293 ∧ tC a3 0 = (5, 0) := by
  unfold a3
  exact est_step f_a2.1 f_a2.2.1 f_a2.2.2 (by omega) 2 28
def a4 : SpS := pR (taS (nwS a3 4 0 6) 40) 0 4 41
def b4 : AH := taH (nwS a3 4 0 6) (zA b3 40)
theorem f_a4 : nC a4 = 43 ∧ sC a4 = 553 ∧ tC a4 0 = (5, 0) := by
  unfold a4 taS
  simp (decide := true) only [w_pR, w_nw, c_pR, c_nw, y_pR, y_nw, f_a3.1, f_a3.2.1, f_a3.2.2, if_false]
def a5 : SpS := pR (nwS a4 13 8 8) 0 5 44
def b5 : AH := zA b4 43
theorem f_a5 : nC a5 = 44 ∧ sC a5 = 561 ∧ tC a5 0 = (5, 0) ∧ tC a5 43 = (13, 8) ∧ rC a5 0 5 = 44 := by
  unfold a5
  simp (decide := true) only [w_pR, w_nw, c_pR, c_nw, y_pR, y_nw, q_pR, q_nw, f_a4.1, f_a4.2.1, f_a4.2.2, if_false, if_true]
def a6 : SpS := pR (opS (nwS a5 2 0 2) 44) 0 6 45
def b6 : AH := opH (nwS a5 2 0 2) (zA b5 44)
theorem f_a6 : nC a6 = 47 ∧ sC a6 = 579 ∧ tC a6 0 = (5, 0) ∧ tC a6 43 = (13, 8) ∧ rC a6 0 5 = 44 := by
  unfold a6 opS
  simp (decide := true) only [w_pR, w_nw, c_pR, c_nw, y_pR, y_nw, q_pR, q_nw, f_a5.1, f_a5.2.1, f_a5.2.2.1, f_a5.2.2.2.1, f_a5.2.2.2.2, if_false, if_true]
def a7 : SpS := pR (nwS a6 10 5 5) 0 7 48
def b7 : AH := zA b6 47
theorem f_a7 : nC a7 = 48 ∧ sC a7 = 584 ∧ tC a7 0 = (5, 0) ∧ tC a7 43 = (13, 8) ∧ rC a7 0 5 = 44 := by
  unfold a7
  simp (decide := true) only [w_pR, w_nw, c_pR, c_nw, y_pR, y_nw, q_pR, q_nw, f_a6.1, f_a6.2.1, f_a6.2.2.1, f_a6.2.2.2.1, f_a6.2.2.2.2, if_false, if_true]
theorem w_a7 : nC a7 = 48 := f_a7.1
theorem c_a7 : sC a7 = 584 := f_a7.2.1
theorem y_a7 : tC a7 0 = (5, 0) ∧ tC a7 43 = (13, 8) := ⟨f_a7.2.2.1, f_a7.2.2.2.1⟩
theorem q_a7 : rC a7 0 5 = 44 := f_a7.2.2.2.2
theorem fa1 : pR (esS (nwS S1 0 0 7) 1) 0 0 2 = a1 := nr rfl
theorem fa2 : pR (esS (nwS a1 0 0 7) 14) 0 1 15 = a2 := nr rfl
theorem fa3 : pR (esS (nwS a2 0 0 7) 27) 0 2 28 = a3 := nr rfl
theorem fa4 : pR (taS (nwS a3 4 0 6) 40) 0 4 41 = a4 := nr rfl
theorem fa5 : pR (nwS a4 13 8 8) 0 5 44 = a5 := nr rfl
theorem fa6 : pR (opS (nwS a5 2 0 2) 44) 0 6 45 = a6 := nr rfl
theorem fa7 : pR (nwS a6 10 5 5) 0 7 48 = a7 := nr rfl
theorem fb1 : esH (nwS S1 0 0 7) 1 (zA H1 1) = b1 := nr rfl
theorem fb2 : esH (nwS a1 0 0 7) 14 (zA b1 14) = b2 := nr rfl
theorem fb3 : esH (nwS a2 0 0 7) 27 (zA b2 27) = b3 := nr rfl
theorem fb4 : taH (nwS a3 4 0 6) (zA b3 40) = b4 := nr rfl
theorem fb5 : zA b4 43 = b5 := nr rfl
theorem fb6 : opH (nwS a5 2 0 2) (zA b5 44) = b6 := nr rfl
theorem fb7 : zA b6 47 = b7 := nr rfl
theorem nF0 : nF 0 = 7 := nr rfl
theorem nF2 : nF 2 = 2 := nr rfl
theorem nF4 : nF 4 = 6 := nr rfl
theorem y_ta {S : SpS} {x c : Nat} (hc : c < nC S) : tC (taS S x) c = tC S c := by
  unfold taS
  rw [y_pR, y_nw, w_pR, w_nw, if_neg (by omega), y_pR, y_nw, if_neg (by omega)]
theorem y_op {S : SpS} {x c : Nat} (hc : c < nC S) : tC (opS S x) c = tC S c := by
  unfold opS
  rw [y_pR, y_nw, w_pR, w_nw, if_neg (by omega), y_pR, y_nw, if_neg (by omega)]
def slS (n : Nat) : SpS := forN n (fun i T => pR (shS (nwS T 3 0 3) (nC T)) 43 i (nC T + 1)) a7
def slH (n : Nat) : AH := forN n (fun i h => zA (pI (zA h (48 + 2 * i)) (48 + 2 * i) 0 (-1)) (48 + 2 * i + 1)) b7
theorem slS_s (n : Nat) : slS (n + 1) = pR (shS (nwS (slS n) 3 0 3) (nC (slS n))) 43 n (nC (slS n) + 1) := rfl
theorem slH_s (n : Nat) : slH (n + 1) = zA (pI (zA (slH n) (48 + 2 * n)) (48 + 2 * n) 0 (-1)) (48 + 2 * n + 1) := rfl
theorem w_sl : ∀ n, nC (slS n) = 48 + 2 * n
  | 0 => w_a7
  | n + 1 => by rw [slS_s, w_pR, w_sh, w_nw, w_sl n]; omega
theorem c_sl : ∀ n, sC (slS n) = 584 + 43 * n
  | 0 => c_a7
  | n + 1 => by rw [slS_s, c_pR, c_sh, c_nw, c_sl n]; omega
theorem y_sl {c : Nat} (hc : c < 48) : ∀ n, tC (slS n) c = tC a7 c
  | 0 => rfl
  | n + 1 => by
    have := w_sl n
    rw [slS_s, y_pR]
    unfold shS
    rw [y_pR, y_nw, w_nw, if_neg (by omega), y_nw, if_neg (by omega), y_sl hc n]
theorem q_sl : ∀ n, rC (slS n) 0 5 = 44
  | 0 => q_a7
  | n + 1 => by
    have := w_sl n
    rw [slS_s, q_pR, if_neg (by omega)]
    unfold shS
    rw [q_pR, if_neg (by omega), q_nw, w_nw, if_neg (by omega), q_nw, if_neg (by omega), q_sl n]
def S_X5_init : SpT := fun S as h K => match as with
  | [.ref x] => S = S1 ∧ h = H1 ∧ x = 0 ∧ K none (slS 8) (slH 8)
  | _ => False
theorem e_X5_init {S : SpS} {x : Addr} {h : AH} {K : Option Value → SpS → AH → Prop} : S_X5_init S [.ref x] h K = (S = S1 ∧ h = H1 ∧ x = 0 ∧ K none (slS 8) (slH 8)) := nr rfl
def L_X5_init_102 : List Item := (102, .return_, [], nS) :: []
def L_X5_init_77 : List Item := (77, .iload_n 1, [], nS) :: (78, .bipush 8, [], nS) :: (80, .if_icmp .ge 22, [102], nS) :: (83, .aload_n 0, [], nS) :: (84, .getfield 31, [5, 5, 1], nS) :: (87, .iload_n 1, [], nS) :: (88, .new 29, [3], nS) :: (91, .dup, [], nS) :: (92, .invokespecial 46, [0, 1, 40], S_X3_init) :: (95, .aastore, [], nS) :: (96, .iinc 1 1, [], nS) :: (99, .goto (-22), [77], nS) :: L_X5_init_102
def L_X5_init_0 : List Item := (0, .aload_n 0, [], nS) :: (1, .invokespecial 1, [], nS) :: (4, .aload_n 0, [], nS) :: (5, .new 7, [0], nS) :: (8, .dup, [], nS) :: (9, .invokespecial 9, [0, 12, 88], S_X0_init) :: (12, .putfield 10, [5, 0, 1], nS) :: (15, .aload_n 0, [], nS) :: (16, .new 7, [0], nS) :: (19, .dup, [], nS) :: (20, .invokespecial 9, [0, 12, 88], S_X0_init) :: (23, .putfield 16, [5, 1, 1], nS) :: (26, .aload_n 0, [], nS) :: (27, .new 7, [0], nS) :: (30, .dup, [], nS) :: (31, .invokespecial 9, [0, 12, 88], S_X0_init) :: (34, .putfield 19, [5, 2, 1], nS) :: (37, .aload_n 0, [], nS) :: (38, .new 22, [4], nS) :: (41, .dup, [], nS) :: (42, .invokespecial 24, [0, 2, 254], S_X4_init) :: (45, .putfield 25, [5, 4, 1], nS) :: (48, .aload_n 0, [], nS) :: (49, .bipush 8, [], nS) :: (51, .anewarray 29, [13], nS) :: (54, .putfield 31, [5, 5, 1], nS) :: (57, .aload_n 0, [], nS) :: (58, .new 35, [2], nS) :: (61, .dup, [], nS) :: (62, .invokespecial 37, [0, 2, 16], S_X2_init) :: (65, .putfield 38, [5, 6, 1], nS) :: (68, .aload_n 0, [], nS) :: (69, .iconst 5, [], nS) :: (70, .newarray .int, [], nS) :: (72, .putfield 42, [5, 7, 1], nS) :: (75, .iconst 0, [], nS) :: (76, .istore_n 1, [], nS) :: (77, .nop, [], nS) :: L_X5_init_77
def L_X5_init : List Item := L_X5_init_0
theorem ok_X5_init : okB cX5_init L_X5_init = true := by decide +kernel
theorem lk_X5_init (l : Launch) : LKs l RX5 3 true L_X5_init := ⟨trivial, Or.inl ⟨rfl, gT_of (List.mem_of_getElem? (i := 44) (by decide +kernel)) rfl⟩, trivial, ⟨_, (RX0, TX0, 7), rfl, rfl, gT_of (List.mem_of_getElem? (i := 47) (by decide +kernel)) rfl, gT_of (List.mem_of_getElem? (i := 48) (by decide +kernel)) rfl, gT_of (List.mem_of_getElem? (i := 27) (by decide +kernel)) rfl⟩, trivial, Or.inr ⟨_, _, _, _, _, _, _, rfl, c_X0_init l, yv_X0_init, by decide, gT_of (List.mem_of_getElem? (i := 49) (by decide +kernel)) rfl⟩, ⟨_, _, _, rfl, ⟨(RX5, TX5, 8), rfl, by decide, gT_of (List.mem_of_getElem? (i := 191) (by decide +kernel)) rfl⟩, rfl, fun _ => ⟨rfl, rfl⟩⟩, trivial, ⟨_, (RX0, TX0, 7), rfl, rfl, gT_of (List.mem_of_getElem? (i := 47) (by decide +kernel)) rfl, gT_of (List.mem_of_getElem? (i := 48) (by decide +kernel)) rfl, gT_of (List.mem_of_getElem? (i := 27) (by decide +kernel)) rfl⟩, trivial, Or.inr ⟨_, _, _, _, _, _, _, rfl, c_X0_init l, yv_X0_init, by decide, gT_of (List.mem_of_getElem? (i := 49) (by decide +kernel)) rfl⟩, ⟨_, _, _, rfl, ⟨(RX5, TX5, 8), rfl, by decide, gT_of (List.mem_of_getElem? (i := 192) (by decide +kernel)) rfl⟩, rfl, fun _ => ⟨rfl, rfl⟩⟩, trivial, ⟨_, (RX0, TX0, 7), rfl, rfl, gT_of (List.mem_of_getElem? (i := 47) (by decide +kernel)) rfl, gT_of (List.mem_of_getElem? (i := 48) (by decide +kernel)) rfl, gT_of (List.mem_of_getElem? (i := 27) (by decide +kernel)) rfl⟩, trivial, Or.inr ⟨_, _, _, _, _, _, _, rfl, c_X0_init l, yv_X0_init, by decide, gT_of (List.mem_of_getElem? (i := 49) (by decide +kernel)) rfl⟩, ⟨_, _, _, rfl, ⟨(RX5, TX5, 8), rfl, by decide, gT_of (List.mem_of_getElem? (i := 193) (by decide +kernel)) rfl⟩, rfl, fun _ => ⟨rfl, rfl⟩⟩, trivial, ⟨_, (RX4, TX4, 6), rfl, rfl, gT_of (List.mem_of_getElem? (i := 130) (by decide +kernel)) rfl, gT_of (List.mem_of_getElem? (i := 131) (by decide +kernel)) rfl, gT_of (List.mem_of_getElem? (i := 29) (by decide +kernel)) rfl⟩, trivial, Or.inr ⟨_, _, _, _, _, _, _, rfl, c_X4_init l, yv_X4_init, by decide, gT_of (List.mem_of_getElem? (i := 132) (by decide +kernel)) rfl⟩, ⟨_, _, _, rfl, ⟨(RX5, TX5, 8), rfl, by decide, gT_of (List.mem_of_getElem? (i := 195) (by decide +kernel)) rfl⟩, rfl, fun _ => ⟨rfl, rfl⟩⟩, trivial, trivial, ⟨_, RX3, rfl, Or.inr ⟨rfl, rfl⟩, gT_of (List.mem_of_getElem? (i := 157) (by decide +kernel)) rfl⟩, ⟨_, _, _, rfl, ⟨(RX5, TX5, 8), rfl, by decide, gT_of (List.mem_of_getElem? (i := 196) (by decide +kernel)) rfl⟩, rfl, fun _ => ⟨rfl, rfl⟩⟩, trivial, ⟨_, (RX2, TX2, 2), rfl, rfl, gT_of (List.mem_of_getElem? (i := 159) (by decide +kernel)) rfl, gT_of (List.mem_of_getElem? (i := 160) (by decide +kernel)) rfl, gT_of (List.mem_of_getElem? (i := 30) (by decide +kernel)) rfl⟩, trivial, Or.inr ⟨_, _, _, _, _, _, _, rfl, c_X2_init l, yv_X2_init, by decide, gT_of (List.mem_of_getElem? (i := 161) (by decide +kernel)) rfl⟩, ⟨_, _, _, rfl, ⟨(RX5, TX5, 8), rfl, by decide, gT_of (List.mem_of_getElem? (i := 197) (by decide +kernel)) rfl⟩, rfl, fun _ => ⟨rfl, rfl⟩⟩, trivial, trivial, trivial, ⟨_, _, _, rfl, ⟨(RX5, TX5, 8), rfl, by decide, gT_of (List.mem_of_getElem? (i := 198) (by decide +kernel)) rfl⟩, rfl, fun _ => ⟨rfl, rfl⟩⟩, trivial, trivial, trivial, trivial, trivial, trivial, trivial, ⟨_, _, _, rfl, ⟨(RX5, TX5, 8), rfl, by decide, gT_of (List.mem_of_getElem? (i := 196) (by decide +kernel)) rfl⟩, rfl⟩, trivial, ⟨_, (RX3, TX3, 3), rfl, rfl, gT_of (List.mem_of_getElem? (i := 157) (by decide +kernel)) rfl, gT_of (List.mem_of_getElem? (i := 172) (by decide +kernel)) rfl, gT_of (List.mem_of_getElem? (i := 31) (by decide +kernel)) rfl⟩, trivial, Or.inr ⟨_, _, _, _, _, _, _, rfl, c_X3_init l, yv_X3_init, by decide, gT_of (List.mem_of_getElem? (i := 173) (by decide +kernel)) rfl⟩, trivial, trivial, trivial, trivial, trivial⟩
theorem b_X5_init_0 : atL L_X5_init 0 = L_X5_init_0 := rfl
theorem b_X5_init_77 : atL L_X5_init 77 = L_X5_init_77 := rfl
theorem b_X5_init_102 : atL L_X5_init 102 = L_X5_init_102 := rfl
theorem a_X5_init_102 : afw L_X5_init [77] 102 = L_X5_init_102 := rfl
theorem a_X5_init_77 : afw L_X5_init [77] 77 = [] := rfl
theorem yv_X5_init : YI yX5_init cX5_init 2 0 := ⟨⟨gT_of (List.mem_of_getElem? (i := 43) (by decide +kernel)) rfl, gT_of (List.mem_of_getElem? (i := 26) (by decide +kernel)) rfl, ⟨by decide, by decide⟩, by decide +kernel, by decide⟩, gT_of (List.mem_of_getElem? (i := 42) (by decide +kernel)) rfl, rfl⟩
theorem u_X5_init_0 : L_X5_init_0 = (0, .aload_n 0, [], nS) :: (1, .invokespecial 1, [], nS) :: (4, .aload_n 0, [], nS) :: (5, .new 7, [0], nS) :: (8, .dup, [], nS) :: (9, .invokespecial 9, [0, 12, 88], S_X0_init) :: (12, .putfield 10, [5, 0, 1], nS) :: (15, .aload_n 0, [], nS) :: (16, .new 7, [0], nS) :: (19, .dup, [], nS) :: (20, .invokespecial 9, [0, 12, 88], S_X0_init) :: (23, .putfield 16, [5, 1, 1], nS) :: (26, .aload_n 0, [], nS) :: (27, .new 7, [0], nS) :: (30, .dup, [], nS) :: (31, .invokespecial 9, [0, 12, 88], S_X0_init) :: (34, .putfield 19, [5, 2, 1], nS) :: (37, .aload_n 0, [], nS) :: (38, .new 22, [4], nS) :: (41, .dup, [], nS) :: (42, .invokespecial 24, [0, 2, 254], S_X4_init) :: (45, .putfield 25, [5, 4, 1], nS) :: (48, .aload_n 0, [], nS) :: (49, .bipush 8, [], nS) :: (51, .anewarray 29, [13], nS) :: (54, .putfield 31, [5, 5, 1], nS) :: (57, .aload_n 0, [], nS) :: (58, .new 35, [2], nS) :: (61, .dup, [], nS) :: (62, .invokespecial 37, [0, 2, 16], S_X2_init) :: (65, .putfield 38, [5, 6, 1], nS) :: (68, .aload_n 0, [], nS) :: (69, .iconst 5, [], nS) :: (70, .newarray .int, [], nS) :: (72, .putfield 42, [5, 7, 1], nS) :: (75, .iconst 0, [], nS) :: (76, .istore_n 1, [], nS) :: (77, .nop, [], nS) :: L_X5_init_77 := nr rfl
theorem u_X5_init_77 : L_X5_init_77 = (77, .iload_n 1, [], nS) :: (78, .bipush 8, [], nS) :: (80, .if_icmp .ge 22, [102], nS) :: (83, .aload_n 0, [], nS) :: (84, .getfield 31, [5, 5, 1], nS) :: (87, .iload_n 1, [], nS) :: (88, .new 29, [3], nS) :: (91, .dup, [], nS) :: (92, .invokespecial 46, [0, 1, 40], S_X3_init) :: (95, .aastore, [], nS) :: (96, .iinc 1 1, [], nS) :: (99, .goto (-22), [77], nS) :: L_X5_init_102 := nr rfl
theorem u_X5_init_102 : L_X5_init_102 = (102, .return_, [], nS) :: [] := nr rfl
theorem z_X5_init_0 : atL L_X5_init 0 = L_X5_init_0 := nr rfl
theorem z_X5_init_77 : atL L_X5_init 77 = L_X5_init_77 := nr rfl
theorem z_X5_init_102 : atL L_X5_init 102 = L_X5_init_102 := nr rfl
theorem j_X5_init_102 {G : List Item → SpS → List Value → List Value → AH → Prop} {J : Nat → SpS → List Value → List Value → AH → Prop} {S : SpS} {lv st : List Value} {h : AH} : jmp G J (afw L_X5_init [77] 102) 102 S lv st h = G L_X5_init_102 S lv st h := nr rfl
theorem j_X5_init_77 {G : List Item → SpS → List Value → List Value → AH → Prop} {J : Nat → SpS → List Value → List Value → AH → Prop} {S : SpS} {lv st : List Value} {h : AH} : jmp G J (afw L_X5_init [77] 77) 77 S lv st h = J 77 S lv st h := nr rfl
set_option maxRecDepth 100000 in
set_option maxHeartbeats 4000000 in
theorem c_X5_init (l : Launch) : Ct l yX5_init cX5_init 2 none 3 63 920 S_X5_init := by
  refine Ct_mk L_X5_init [77] (by decide +kernel) (by decide) (fun _ => rfl) ok_X5_init (lk_X5_init l) ?_
  intro S as h K hP
  match as, hP with
  | [.ref x], ⟨h1, h2, h3, hK⟩ =>
  refine ⟨by simp [slotsN, Value.category], fun J hJ => ?_⟩
  subst h1 h2 h3
  have key : J 77 a7 [.ref 0, .int 0] [] b7 := by
    refine dn (P := fun i => J 77 (slS i) [.ref 0, .int (nI i)] [] (slH i)) 8 ?_ (fun i hi ih => ?_)
    · refine hJ 77 _ _ _ _ ?_
      simp only [z_X5_init_77, u_X5_init_0, u_X5_init_77, u_X5_init_102, j_X5_init_77, j_X5_init_102, ev_aload_n0, ec_obj, ec_new, ev_dup_ref, ec_callI, ec_putfR, ev_bipush, ec_anew, ev_iconst, ec_newI, ec_newJ, ev_istore_n1, ev_nop, ev_iload_n1, ev_ic_ge, ev_getfR, ec_aast, ev_iinc1, ev_goto, ec_vret, e_X0_init, e_X2_init, e_X3_init, e_X4_init, capO_z, kb_6, kb_11, kb_13, kb_15, kb_17, kb_18, kb_19, kb_23, kb_24, kb_25, kb_26, kb_29, kb_31, kb_35, kb_37, kb_41, kb_43, kb_44, kb_61, kb_75, kb_104, kb_7, kb_8, kb_9, kb_10, kb_12, kb_16, kb_20, kb_21, kb_30, kb_32, kb_40, kb_48, kb_50, kb_57, kb_59, kb_60, kb_63, kb_70, kb_78, kb_81, kb_82, kb_84, kb_97, kb_99, kb_100, kb_101, kb_119, kb_120, kb_122, ki_m1, ki_0, ki_1, ki_2, ki_3, ki_4, ki_5, ki_6, ki_7, ki_8, ki_9, ki_10, ki_11, ki_12, ki_13, ki_14, ki_15, ki_16, ki_17, ki_18, ki_19, ki_20, ki_21, ki_22, ki_23, ki_24, ki_25, ki_26, ki_27, ki_28, ki_29, ki_30, ki_31, ki_32, ki_33, ki_34, ki_35, ki_36, ki_37, ki_38, ki_39, ki_40, ki_41, ki_42, ki_43, ki_44, ki_45, ki_46, ki_47, ki_48, ki_49, ki_50, ki_51, ki_52, ki_53, ki_54, ki_55, ki_56, ki_57, ki_58, ki_59, ki_60, ki_61, ki_62, ki_63, ks_m2000, ks_m1006, ks_m1005, ks_m1004, ks_m1003, ks_m1002, ks_m1000, ks_200, ks_201, ks_300, ks_720, ks_9000, ks_10000, ks_250, ks_255, ks_256, ks_320, ks_660, ks_999, ks_1000, ks_9999, ks_12345, ne_2, ne_10, t_0, t_40, t_41, t_42, t_43, t_44, t_45, t_46, t_47, r_0_0, r_0_1, r_0_2, r_0_4, r_0_5, r_0_6, r_0_7, r_40_0, r_40_5, r_44_0, r_44_1, t_1, t_14, t_27, t_2, t_15, t_28, t_64, Nat.reduceEqDiff, ne_eq, not_false_eq_true, false_implies, true_implies, implies_true, Nat.reduceAdd, Nat.reduceLeDiff, Nat.reduceLT, Nat.reduceMul, or_true, true_or, if_true, if_false, not_true_eq_false, and_self, bF, Nat.reduceBEq, Bool.false_and, Bool.and_false, Bool.or_self, Bool.or_false, Bool.false_or, Bool.false_eq_true, Int.reduceAdd, Bool.and_self, Bool.true_and, Bool.and_true, beq_self_eq_true, not_not_, i10_, i01_, List.length_nil, List.length_cons, true_and, and_true, false_and, and_false, kl_i, kl_a, kl_n, kl_l, tl_s, tl_n, rv_S, pd_0, pd_e, pd_r, pd_i, pd_l, w_nw, w_pR, c_nw, c_pR, y_nw, y_pR, q_nw, q_pR, show ((8 : Int32) ≤ nI 8) = True by decide]
      exact ⟨(w_sl 8).trans rfl, (c_sl 8).trans rfl, hK⟩
    · have t1 := (y_sl (c := 0) (by omega) i).trans y_a7.1
      have t2 := (y_sl (c := 43) (by omega) i).trans y_a7.2
      have q1 := q_sl i
      have w1 := w_sl i
      have c1 := c_sl i
      rw [slS_s, slH_s] at ih
      unfold shS at ih
      generalize slS i = T at *
      generalize slH i = hT at *
      rw [w_nw, w1] at ih
      have x1 : (43 = 48 + 2 * i) = False := eq_false (by omega)
      have x2 : (0 = 48 + 2 * i) = False := eq_false (by omega)
      have x3 : (43 = 48 + 2 * i + 1) = False := eq_false (by omega)
      have x4 : (48 + 2 * i = 48 + 2 * i + 1) = False := eq_false (by omega)
      refine hJ 77 _ _ _ _ ?_
      simp only [z_X5_init_77, u_X5_init_0, u_X5_init_77, u_X5_init_102, j_X5_init_77, j_X5_init_102, ev_aload_n0, ec_obj, ec_new, ev_dup_ref, ec_callI, ec_putfR, ev_bipush, ec_anew, ev_iconst, ec_newI, ec_newJ, ev_istore_n1, ev_nop, ev_iload_n1, ev_ic_ge, ev_getfR, ec_aast, ev_iinc1, ev_goto, ec_vret, e_X0_init, e_X2_init, e_X3_init, e_X4_init, capO_z, kb_6, kb_11, kb_13, kb_15, kb_17, kb_18, kb_19, kb_23, kb_24, kb_25, kb_26, kb_29, kb_31, kb_35, kb_37, kb_41, kb_43, kb_44, kb_61, kb_75, kb_104, kb_7, kb_8, kb_9, kb_10, kb_12, kb_16, kb_20, kb_21, kb_30, kb_32, kb_40, kb_48, kb_50, kb_57, kb_59, kb_60, kb_63, kb_70, kb_78, kb_81, kb_82, kb_84, kb_97, kb_99, kb_100, kb_101, kb_119, kb_120, kb_122, ki_m1, ki_0, ki_1, ki_2, ki_3, ki_4, ki_5, ki_6, ki_7, ki_8, ki_9, ki_10, ki_11, ki_12, ki_13, ki_14, ki_15, ki_16, ki_17, ki_18, ki_19, ki_20, ki_21, ki_22, ki_23, ki_24, ki_25, ki_26, ki_27, ki_28, ki_29, ki_30, ki_31, ki_32, ki_33, ki_34, ki_35, ki_36, ki_37, ki_38, ki_39, ki_40, ki_41, ki_42, ki_43, ki_44, ki_45, ki_46, ki_47, ki_48, ki_49, ki_50, ki_51, ki_52, ki_53, ki_54, ki_55, ki_56, ki_57, ki_58, ki_59, ki_60, ki_61, ki_62, ki_63, ks_m2000, ks_m1006, ks_m1005, ks_m1004, ks_m1003, ks_m1002, ks_m1000, ks_200, ks_201, ks_300, ks_720, ks_9000, ks_10000, ks_250, ks_255, ks_256, ks_320, ks_660, ks_999, ks_1000, ks_9999, ks_12345, ne_2, ne_10, t_0, t_40, t_41, t_42, t_43, t_44, t_45, t_46, t_47, r_0_0, r_0_1, r_0_2, r_0_4, r_0_5, r_0_6, r_0_7, r_40_0, r_40_5, r_44_0, r_44_1, t_1, t_14, t_27, t_2, t_15, t_28, t_64, Nat.reduceEqDiff, ne_eq, not_false_eq_true, false_implies, true_implies, implies_true, Nat.reduceAdd, Nat.reduceLeDiff, Nat.reduceLT, Nat.reduceMul, or_true, true_or, if_true, if_false, not_true_eq_false, and_self, bF, Nat.reduceBEq, Bool.false_and, Bool.and_false, Bool.or_self, Bool.or_false, Bool.false_or, Bool.false_eq_true, Int.reduceAdd, Bool.and_self, Bool.true_and, Bool.and_true, beq_self_eq_true, not_not_, i10_, i01_, List.length_nil, List.length_cons, true_and, and_true, false_and, and_false, kl_i, kl_a, kl_n, kl_l, tl_s, tl_n, rv_S, pd_0, pd_e, pd_r, pd_i, pd_l, w_nw, w_pR, c_nw, c_pR, y_nw, y_pR, q_nw, q_pR, show ((8 : Int32) ≤ nI i) = False from lp8F hi, t1, q1, w1, x1, x2, x3, x4, t2, shS, shH, vp8 hi, nI_clamp (show i < 2 ^ 31 by omega), nI_1, show nF 3 = 3 from rfl]
      have w0 := w_S1
      have c0 := c_S1
      refine ⟨⟨by omega, by omega, by omega⟩, Or.inr ⟨?_, ?_⟩, Nat.lt_succ_self _, by omega, ih⟩
      · rw [w_nw]; dsimp only; omega
      · rw [c_nw]; dsimp only; omega
  have w1 := f_a1; have w2 := f_a2; have w3 := f_a3; have w4 := f_a4; have w5 := f_a5; have w6 := f_a6; have w7 := f_a7
  refine hJ 0 _ _ _ _ ?_
  simp only [z_X5_init_0, u_X5_init_0, u_X5_init_77, u_X5_init_102, j_X5_init_77, j_X5_init_102, ev_aload_n0, ec_obj, ec_new, ev_dup_ref, ec_callI, ec_putfR, ev_bipush, ec_anew, ev_iconst, ec_newI, ec_newJ, ev_istore_n1, ev_nop, ev_iload_n1, ev_ic_ge, ev_getfR, ec_aast, ev_iinc1, ev_goto, ec_vret, e_X0_init, e_X2_init, e_X3_init, e_X4_init, capO_z, kb_6, kb_11, kb_13, kb_15, kb_17, kb_18, kb_19, kb_23, kb_24, kb_25, kb_26, kb_29, kb_31, kb_35, kb_37, kb_41, kb_43, kb_44, kb_61, kb_75, kb_104, kb_7, kb_8, kb_9, kb_10, kb_12, kb_16, kb_20, kb_21, kb_30, kb_32, kb_40, kb_48, kb_50, kb_57, kb_59, kb_60, kb_63, kb_70, kb_78, kb_81, kb_82, kb_84, kb_97, kb_99, kb_100, kb_101, kb_119, kb_120, kb_122, ki_m1, ki_0, ki_1, ki_2, ki_3, ki_4, ki_5, ki_6, ki_7, ki_8, ki_9, ki_10, ki_11, ki_12, ki_13, ki_14, ki_15, ki_16, ki_17, ki_18, ki_19, ki_20, ki_21, ki_22, ki_23, ki_24, ki_25, ki_26, ki_27, ki_28, ki_29, ki_30, ki_31, ki_32, ki_33, ki_34, ki_35, ki_36, ki_37, ki_38, ki_39, ki_40, ki_41, ki_42, ki_43, ki_44, ki_45, ki_46, ki_47, ki_48, ki_49, ki_50, ki_51, ki_52, ki_53, ki_54, ki_55, ki_56, ki_57, ki_58, ki_59, ki_60, ki_61, ki_62, ki_63, ks_m2000, ks_m1006, ks_m1005, ks_m1004, ks_m1003, ks_m1002, ks_m1000, ks_200, ks_201, ks_300, ks_720, ks_9000, ks_10000, ks_250, ks_255, ks_256, ks_320, ks_660, ks_999, ks_1000, ks_9999, ks_12345, ne_2, ne_10, t_0, t_40, t_41, t_42, t_43, t_44, t_45, t_46, t_47, r_0_0, r_0_1, r_0_2, r_0_4, r_0_5, r_0_6, r_0_7, r_40_0, r_40_5, r_44_0, r_44_1, t_1, t_14, t_27, t_2, t_15, t_28, t_64, Nat.reduceEqDiff, ne_eq, not_false_eq_true, false_implies, true_implies, implies_true, Nat.reduceAdd, Nat.reduceLeDiff, Nat.reduceLT, Nat.reduceMul, or_true, true_or, if_true, if_false, not_true_eq_false, and_self, bF, Nat.reduceBEq, Bool.false_and, Bool.and_false, Bool.or_self, Bool.or_false, Bool.false_or, Bool.false_eq_true, Int.reduceAdd, Bool.and_self, Bool.true_and, Bool.and_true, beq_self_eq_true, not_not_, i10_, i01_, List.length_nil, List.length_cons, true_and, and_true, false_and, and_false, kl_i, kl_a, kl_n, kl_l, tl_s, tl_n, rv_S, pd_0, pd_e, pd_r, pd_i, pd_l, w_nw, w_pR, c_nw, c_pR, y_nw, y_pR, q_nw, q_pR, w_S1, c_S1, y_S1, kz_8, kz_8n, kz_5, kz_5n, capO, w_es, c_es, w_ta, c_ta, w_op, c_op, y_es, fa1, fa2, fa3, fa4, fa5, fa6, fa7, fb1, fb2, fb3, fb4, fb5, fb6, fb7, f_a1.1, f_a1.2.1, f_a1.2.2, f_a2.1, f_a2.2.1, f_a2.2.2, f_a3.1, f_a3.2.1, f_a3.2.2, f_a4.1, f_a4.2.1, f_a4.2.2, f_a5.1, f_a5.2.1, f_a5.2.2.1, f_a6.1, f_a6.2.1, f_a6.2.2.1, f_a7.1, f_a7.2.1, f_a7.2.2.1, y_ta, y_op, Nat.zero_lt_succ, nF0, nF2, nF4]
  exact key
