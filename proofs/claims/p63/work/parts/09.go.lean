/-! ===== a straight stretch of code as a list of items; go: what is to be shown for it to run ===== -/
def pI1 (st : List Value) (f : Int32 → List Value → Prop) : Prop := match st with
  | .int x :: r => f x r
  | _ => False
def pL1 (st : List Value) (f : Int64 → List Value → Prop) : Prop := match st with
  | .long x :: r => f x r
  | _ => False
def pII (st : List Value) (f : Int32 → Int32 → List Value → Prop) : Prop := match st with
  | .int y :: .int x :: r => f x y r
  | _ => False
def pLL (st : List Value) (f : Int64 → Int64 → List Value → Prop) : Prop := match st with
  | .long y :: .long x :: r => f x y r
  | _ => False
def pLI (st : List Value) (f : Int64 → Int32 → List Value → Prop) : Prop := match st with
  | .int y :: .long x :: r => f x y r
  | _ => False
def pR1 (st : List Value) (f : Nat → List Value → Prop) : Prop := match st with
  | .ref a :: r => f a r
  | _ => False
def pIR (st : List Value) (f : Nat → Int32 → List Value → Prop) : Prop := match st with
  | .int i :: .ref a :: r => f a i r
  | _ => False
def pIIR (st : List Value) (f : Nat → Int32 → Int32 → List Value → Prop) : Prop := match st with
  | .int x :: .int i :: .ref a :: r => f a i x r
  | _ => False
def pLIR (st : List Value) (f : Nat → Int32 → Int64 → List Value → Prop) : Prop := match st with
  | .long x :: .int i :: .ref a :: r => f a i x r
  | _ => False
def pRIR (st : List Value) (f : Nat → Int32 → Nat → List Value → Prop) : Prop := match st with
  | .ref b :: .int i :: .ref a :: r => f a i b r
  | _ => False
def pRR (st : List Value) (f : Nat → Nat → List Value → Prop) : Prop := match st with
  | .ref b :: .ref a :: r => f a b r
  | _ => False
def pCP (st : List Value) (f : Nat → Int32 → Nat → Int32 → Int32 → List Value → Prop) : Prop := match st with
  | .int n :: .int dp :: .ref b :: .int sp :: .ref a :: r => f a sp b dp n r
  | _ => False
def pV1 (st : List Value) (f : Value → List Value → Prop) : Prop := match st with
  | v :: r => v.category = 1 ∧ f v r
  | _ => False
def pV2 (st : List Value) (f : Value → Value → List Value → Prop) : Prop := match st with
  | v :: u :: r => v.category = 1 ∧ u.category = 1 ∧ f v u r
  | _ => False
def pV3 (st : List Value) (f : Value → Value → Value → List Value → Prop) : Prop := match st with
  | v :: u :: t :: r => v.category = 1 ∧ u.category = 1 ∧ t.category = 1 ∧ f v u t r
  | _ => False
def vI (v : Value) (f : Int32 → Prop) : Prop := match v with
  | .int x => f x
  | _ => False
def vL (v : Value) (f : Int64 → Prop) : Prop := match v with
  | .long x => f x
  | _ => False
def vR (v : Value) (f : Nat → Prop) : Prop := match v with
  | .ref x => f x
  | _ => False
def popN (n : Nat) (acc st : List Value) (f : List Value → List Value → Prop) : Prop := match n, st with
  | 0, st => f acc st
  | n + 1, v :: r => popN n (v :: acc) r f
  | _ + 1, [] => False
def eSt (st : List Value) (P : Prop) : Prop := match st with
  | [] => P
  | _ => False
def capO (cap : Nat × Nat) (S : SpS) (mc ms : Nat) : Prop := (mc = 0 ∧ ms = 0) ∨ (nC S + mc ≤ cap.1 ∧ sC S + ms ≤ cap.2)
def swJ (F : Nat → Prop) (x : Int32) (j : Int) (P : Prop) (g : List Nat) : Prop := match g with
  | [] => False
  | [d] => P → F d
  | t :: r => (x = Int32.ofInt j → F t) ∧ swJ F x (j + 1) (P ∧ ¬ x = Int32.ofInt j) r
abbrev Item : Type := Nat × Instr × List Nat × SpT
def nS : SpT := fun _ _ _ _ => False
def br1 (g : List Nat) (F : Nat → Prop) : Prop := match g with
  | [t] => F t
  | _ => False
def ilen (i : Instr) : Nat := match i with
  | .aload _ | .astore _ | .iload _ | .istore _ | .lload _ | .lstore _ | .bipush _ | .ldc _ | .newarray _ => 2
  | .anewarray _ | .getfield _ | .putfield _ | .goto _ | .if_icmp _ _ | .ifCond _ _ | .iinc _ _ | .invokespecial _ | .invokestatic _ | .invokevirtual _ | .ldc_w _ | .ldc2_w _ | .new _ | .sipush _ => 3
  | _ => 1
def gtF (g : List Nat) (st : List Value) (S : SpS) (F : Nat → Nat → Nat → Nat → List Value → Prop) : Prop := match g with
  | [ci, k, f] => pR1 st (fun a r => F a ci k f r)
  | _ => False
def ptF (g : List Nat) (st : List Value) (F : Nat → Nat → Nat → Int32 → List Value → Prop) (G : Nat → Nat → Nat → Nat → List Value → Prop) : Prop := match g with
  | [ci, k, 0] => pIR st (fun a x r => F a ci k x r)
  | [ci, k, _ + 1] => pRR st (fun a b r => G a ci k b r)
  | _ => False
def cstV (j : Nat) : Int32 := match j with
  | 0 => 10000000
  | 1 => 1103515245
  | 2 => 1431655765
  | 3 => 858993459
  | 4 => 252645135
  | 5 => 99999
  | _ => 0
def cstW (j : Nat) : Int64 := match j with
  | 0 => 7
  | 1 => 1000000
  | 2 => 31
  | _ => -1
def ldK (g : List Nat) (F : Value → Prop) : Prop := match g with
  | [0, v] => ∀ x : Int32, x = cstV v → F (.int x)
  | [_ + 1, i] => F (.ref (100000 + i))
  | _ => False
def cV (g : List Nat) (st : List Value) (S : SpS) (F : Nat → Nat → List Value → List Value → Nat → Nat → Prop) : Prop := match g with
  | [n, ci, mc, ms] => popN n [] st (fun As r0 => pR1 r0 (fun b r => F b ci As r mc ms))
  | _ => False
def cI (g : List Nat) (st : List Value) (S : SpS) (F : Nat → List Value → Prop) (G : Nat → List Value → List Value → Nat → Nat → Prop) : Prop := match g with
  | [] => pR1 st F
  | [n, mc, ms] => popN n [] st (fun As r0 => pR1 r0 (fun b r => G b As r mc ms))
  | _ => False
def cS (g : List Nat) (st : List Value) (F : List Value → List Value → Nat → Nat → Prop) (Fmin Fmax : Int32 → Int32 → List Value → Prop) (Fci Fcl : Nat → Int32 → Nat → Int32 → Int32 → List Value → Prop) : Prop := match g with
  | [0, n, mc, ms] => popN n [] st (fun As r => F As r mc ms)
  | [1] => pII st Fmin
  | [2] => pII st Fmax
  | [3] => pCP st Fci
  | [4] => pCP st Fcl
  | _ => False
def stp (J : Nat → SpS → List Value → List Value → AH → Prop) (Rt : Option Value → SpS → AH → Prop) (cap : Nat × Nat) (i : Instr) (pc : Nat) (g : List Nat) (Sp : SpT) (S : SpS) (lv st : List Value) (h : AH) (k : SpS → List Value → List Value → AH → Prop) : Prop := match i with
  | .nop => J pc S lv st h
  | .iconst n => k S lv (.int (Int32.ofInt n) :: st) h
  | .bipush n => k S lv (.int (Int8.ofInt n).toInt32 :: st) h
  | .sipush n => k S lv (.int (Int16.ofInt n).toInt32 :: st) h
  | .lconst n => k S lv (.long (Int64.ofNat n.val) :: st) h
  | .iload i => vI (gL lv i) (fun x => k S lv (.int x :: st) h)
  | .iload_n i => vI (gL lv i.val) (fun x => k S lv (.int x :: st) h)
  | .lload i => vL (gL lv i) (fun x => k S lv (.long x :: st) h)
  | .lload_n i => vL (gL lv i.val) (fun x => k S lv (.long x :: st) h)
  | .aload i => vR (gL lv i) (fun x => k S lv (.ref x :: st) h)
  | .aload_n i => vR (gL lv i.val) (fun x => k S lv (.ref x :: st) h)
  | .istore i => pI1 st (fun x r => i < lv.length ∧ k S (sL lv i (.int x)) r h)
  | .istore_n i => pI1 st (fun x r => i.val < lv.length ∧ k S (sL lv i.val (.int x)) r h)
  | .lstore i => pL1 st (fun x r => i + 1 < lv.length ∧ k S (sL2 lv i (.long x)) r h)
  | .lstore_n i => pL1 st (fun x r => i.val + 1 < lv.length ∧ k S (sL2 lv i.val (.long x)) r h)
  | .astore i => pR1 st (fun x r => i < lv.length ∧ k S (sL lv i (.ref x)) r h)
  | .astore_n i => pR1 st (fun x r => i.val < lv.length ∧ k S (sL lv i.val (.ref x)) r h)
  | .iinc i n => vI (gL lv i) (fun x => i < lv.length ∧ k S (sL lv i (.int (x + Int32.ofInt n))) st h)
  | .iadd => pII st (fun x y r => k S lv (.int (x + y) :: r) h)
  | .isub => pII st (fun x y r => k S lv (.int (x - y) :: r) h)
  | .imul => pII st (fun x y r => k S lv (.int (x * y) :: r) h)
  | .iand => pII st (fun x y r => k S lv (.int (x &&& y) :: r) h)
  | .ior => pII st (fun x y r => k S lv (.int (x ||| y) :: r) h)
  | .ixor => pII st (fun x y r => k S lv (.int (x ^^^ y) :: r) h)
  | .ishl => pII st (fun x y r => k S lv (.int (x <<< (y &&& 31)) :: r) h)
  | .ishr => pII st (fun x y r => k S lv (.int (x >>> (y &&& 31)) :: r) h)
  | .iushr => pII st (fun x y r => k S lv (.int ((x.toUInt32 >>> (y.toUInt32 &&& Int32.toUInt32 31)).toInt32) :: r) h)
  | .idiv => pII st (fun x y r => ¬ y = 0 ∧ k S lv (.int (x / y) :: r) h)
  | .irem => pII st (fun x y r => ¬ y = 0 ∧ k S lv (.int (x - x / y * y) :: r) h)
  | .ladd => pLL st (fun x y r => k S lv (.long (x + y) :: r) h)
  | .lsub => pLL st (fun x y r => k S lv (.long (x - y) :: r) h)
  | .lmul => pLL st (fun x y r => k S lv (.long (x * y) :: r) h)
  | .land => pLL st (fun x y r => k S lv (.long (x &&& y) :: r) h)
  | .lor => pLL st (fun x y r => k S lv (.long (x ||| y) :: r) h)
  | .ldiv => pLL st (fun x y r => ¬ y = 0 ∧ k S lv (.long (x / y) :: r) h)
  | .lrem => pLL st (fun x y r => ¬ y = 0 ∧ k S lv (.long (x - x / y * y) :: r) h)
  | .lshl => pLI st (fun x y r => k S lv (.long (x <<< (y.toInt64 &&& 63)) :: r) h)
  | .lshr => pLI st (fun x y r => k S lv (.long (x >>> (y.toInt64 &&& 63)) :: r) h)
  | .lcmp => pLL st (fun x y r => k S lv (.int (lg_cmp x y) :: r) h)
  | .i2l => pI1 st (fun x r => k S lv (.long x.toInt64 :: r) h)
  | .l2i => pL1 st (fun x r => k S lv (.int x.toInt32 :: r) h)
  | .i2b => pI1 st (fun x r => k S lv (.int x.toInt8.toInt32 :: r) h)
  | .i2s => pI1 st (fun x r => k S lv (.int x.toInt16.toInt32 :: r) h)
  | .dup => pV1 st (fun v r => k S lv (v :: v :: r) h)
  | .pop => pV1 st (fun v r => k S lv r h)
  | .dup_x1 => pV2 st (fun v u r => k S lv (v :: u :: v :: r) h)
  | .dup_x2 => pV3 st (fun v u t r => k S lv (v :: u :: t :: v :: r) h)
  | .dup2 => pV2 st (fun v u r => k S lv (v :: u :: v :: u :: r) h)
  | .ifCond .eq off => pI1 st (fun x r => br1 g (fun t => (x = 0 → J t S lv r h) ∧ (¬ x = 0 → k S lv r h)))
  | .ifCond .ne off => pI1 st (fun x r => br1 g (fun t => (¬ x = 0 → J t S lv r h) ∧ (x = 0 → k S lv r h)))
  | .ifCond .lt off => pI1 st (fun x r => br1 g (fun t => (x < 0 → J t S lv r h) ∧ (¬ x < 0 → k S lv r h)))
  | .ifCond .ge off => pI1 st (fun x r => br1 g (fun t => (0 ≤ x → J t S lv r h) ∧ (¬ 0 ≤ x → k S lv r h)))
  | .ifCond .gt off => pI1 st (fun x r => br1 g (fun t => (0 < x → J t S lv r h) ∧ (¬ 0 < x → k S lv r h)))
  | .ifCond .le off => pI1 st (fun x r => br1 g (fun t => (x ≤ 0 → J t S lv r h) ∧ (¬ x ≤ 0 → k S lv r h)))
  | .if_icmp .eq off => pII st (fun x y r => br1 g (fun t => (x = y → J t S lv r h) ∧ (¬ x = y → k S lv r h)))
  | .if_icmp .ne off => pII st (fun x y r => br1 g (fun t => (¬ x = y → J t S lv r h) ∧ (x = y → k S lv r h)))
  | .if_icmp .lt off => pII st (fun x y r => br1 g (fun t => (x < y → J t S lv r h) ∧ (¬ x < y → k S lv r h)))
  | .if_icmp .ge off => pII st (fun x y r => br1 g (fun t => (y ≤ x → J t S lv r h) ∧ (¬ y ≤ x → k S lv r h)))
  | .if_icmp .gt off => pII st (fun x y r => br1 g (fun t => (y < x → J t S lv r h) ∧ (¬ y < x → k S lv r h)))
  | .if_icmp .le off => pII st (fun x y r => br1 g (fun t => (x ≤ y → J t S lv r h) ∧ (¬ x ≤ y → k S lv r h)))
  | .goto off => br1 g (fun t => J t S lv st h)
  | .tableswitch d lo hi offs => pI1 st (fun x r => swJ (fun t => J t S lv r h) x lo True g)
  | .getfield idx => gtF g st S (fun a ci kk f r => (tC S a).1 = ci ∧ k S lv ((if f = 0 then .int (gI h a kk) else rv (rC S a kk)) :: r) h)
  | .putfield idx => ptF g st (fun a ci kk x r => (tC S a).1 = ci ∧ (bF ci kk = true → x = 0 ∨ x = 1) ∧ k S lv r (pI h a kk x)) (fun a ci kk b r => (tC S a).1 = ci ∧ k (pR S a kk (b + 1)) lv r h)
  | .iaload => pIR st (fun a i r => (tC S a).1 = 10 ∧ vp_in i (tC S a).2 ∧ k S lv (.int (gI h a i.toNatClampNeg) :: r) h)
  | .laload => pIR st (fun a i r => (tC S a).1 = 11 ∧ vp_in i (tC S a).2 ∧ k S lv (.long (gJ h a i.toNatClampNeg) :: r) h)
  | .aaload => pIR st (fun a i r => ((tC S a).1 = 12 ∨ (tC S a).1 = 13) ∧ vp_in i (tC S a).2 ∧ k S lv (rv (rC S a i.toNatClampNeg) :: r) h)
  | .iastore => pIIR st (fun a i x r => (tC S a).1 = 10 ∧ vp_in i (tC S a).2 ∧ k S lv r (pI h a i.toNatClampNeg x))
  | .lastore => pLIR st (fun a i x r => (tC S a).1 = 11 ∧ vp_in i (tC S a).2 ∧ k S lv r (pJ h a i.toNatClampNeg x))
  | .aastore => pRIR st (fun a i b r => (((tC S a).1 = 12 ∧ (tC S b).1 = 1) ∨ ((tC S a).1 = 13 ∧ (tC S b).1 = 3)) ∧ vp_in i (tC S a).2 ∧ k (pR S a i.toNatClampNeg (b + 1)) lv r h)
  | .arraylength => pR1 st (fun a r => ((tC S a).1 = 10 ∨ (tC S a).1 = 11) ∧ k S lv (.int (nI (tC S a).2) :: r) h)
  | .ldc idx => ldK g (fun v => k S lv (v :: st) h)
  | .ldc_w idx => ldK g (fun v => k S lv (v :: st) h)
  | .ldc2_w idx => br1 g (fun v => ∀ x : Int64, x = cstW v → k S lv (.long x :: st) h)
  | .new idx => br1 g (fun ci => (nC S + 1 ≤ 100000 ∧ nC S + 1 ≤ cap.1 ∧ sC S + nF ci ≤ cap.2) ∧ k (nwS S ci 0 (nF ci)) lv (.ref (nC S) :: st) (zA h (nC S)))
  | .newarray .int => pI1 st (fun n r => (¬ n < 0 ∧ n.toNatClampNeg ≤ 100000 ∧ nC S + 1 ≤ 100000 ∧ nC S + 1 ≤ cap.1 ∧ sC S + n.toNatClampNeg ≤ cap.2) ∧ k (nwS S 10 n.toNatClampNeg n.toNatClampNeg) lv (.ref (nC S) :: r) (zA h (nC S)))
  | .newarray .long => pI1 st (fun n r => (¬ n < 0 ∧ n.toNatClampNeg ≤ 100000 ∧ nC S + 1 ≤ 100000 ∧ nC S + 1 ≤ cap.1 ∧ sC S + n.toNatClampNeg ≤ cap.2) ∧ k (nwS S 11 n.toNatClampNeg n.toNatClampNeg) lv (.ref (nC S) :: r) (zA h (nC S)))
  | .anewarray idx => br1 g (fun co => pI1 st (fun n r => (¬ n < 0 ∧ n.toNatClampNeg ≤ 100000 ∧ nC S + 1 ≤ 100000 ∧ nC S + 1 ≤ cap.1 ∧ sC S + n.toNatClampNeg ≤ cap.2) ∧ k (nwS S co n.toNatClampNeg n.toNatClampNeg) lv (.ref (nC S) :: r) (zA h (nC S))))
  | .invokevirtual idx => cV g st S (fun b ci As r mc ms => (ci = 100 → 100000 ≤ b ∧ b < 100007) ∧ (ci ≠ 100 → (tC S b).1 = ci) ∧ r.length ≤ 4 ∧ capO cap S mc ms ∧ Sp S (.ref b :: As) h (fun v S' h' => k S' lv (v.toList ++ r) h'))
  | .invokespecial idx => cI g st S (fun a r => r.length ≤ 4 ∧ k S lv r h) (fun b As r mc ms => (tC S b).1 ≠ 99 ∧ r.length ≤ 4 ∧ capO cap S mc ms ∧ Sp S (.ref b :: As) h (fun v S' h' => k S' lv (v.toList ++ r) h'))
  | .invokestatic idx => cS g st (fun As r mc ms => r.length ≤ 4 ∧ capO cap S mc ms ∧ Sp S As h (fun v S' h' => k S' lv (v.toList ++ r) h'))
    (fun x y r => r.length ≤ 4 ∧ k S lv (.int (if y < x then y else x) :: r) h) (fun x y r => r.length ≤ 4 ∧ k S lv (.int (if x < y then y else x) :: r) h)
    (fun a sp b dp n r => (tC S a).1 = 10 ∧ (tC S b).1 = 10 ∧ (¬ sp < 0 ∧ ¬ dp < 0 ∧ ¬ n < 0 ∧ sp.toNatClampNeg + n.toNatClampNeg ≤ (tC S a).2 ∧ dp.toNatClampNeg + n.toNatClampNeg ≤ (tC S b).2) ∧ r.length ≤ 4 ∧ k S lv r (rowI h b (va_cpy (gI h a) (gI h b) sp.toNatClampNeg dp.toNatClampNeg n.toNatClampNeg)))
    (fun a sp b dp n r => (tC S a).1 = 11 ∧ (tC S b).1 = 11 ∧ (¬ sp < 0 ∧ ¬ dp < 0 ∧ ¬ n < 0 ∧ sp.toNatClampNeg + n.toNatClampNeg ≤ (tC S a).2 ∧ dp.toNatClampNeg + n.toNatClampNeg ≤ (tC S b).2) ∧ r.length ≤ 4 ∧ k S lv r (rowJ h b (va_cpy (gJ h a) (gJ h b) sp.toNatClampNeg dp.toNatClampNeg n.toNatClampNeg)))
  | .ireturn => pI1 st (fun x r => eSt r (Rt (some (.int x)) S h))
  | .lreturn => pL1 st (fun x r => eSt r (Rt (some (.long x)) S h))
  | .areturn => pR1 st (fun x r => eSt r (Rt (some (.ref x)) S h))
  | .return_ => eSt st (Rt none S h)
  | _ => False
def go (J : Nat → SpS → List Value → List Value → AH → Prop) (Rt : Option Value → SpS → AH → Prop) (cap : Nat × Nat) (L : List Item) (S : SpS) (lv st : List Value) (h : AH) : Prop := match L with
  | [] => False
  | (pc, i, g, Sp) :: r => stp J Rt cap i pc g Sp S lv st h (fun S lv st h => go J Rt cap r S lv st h)
theorem g_nop {J : Nat → SpS → List Value → List Value → AH → Prop} {Rt : Option Value → SpS → AH → Prop} {cap : Nat × Nat} {pc : Nat} {g : List Nat} {Sp : SpT} {S : SpS} {lv st : List Value} {h : AH} {L : List Item}  : go J Rt cap ((pc, .nop, g, Sp) :: L) S lv st h = (J pc S lv st h) := rfl
theorem g_iconst {J : Nat → SpS → List Value → List Value → AH → Prop} {Rt : Option Value → SpS → AH → Prop} {cap : Nat × Nat} {pc : Nat} {g : List Nat} {Sp : SpT} {S : SpS} {lv st : List Value} {h : AH} {L : List Item} {n : Int} : go J Rt cap ((pc, .iconst n, g, Sp) :: L) S lv st h = (go J Rt cap L S lv (.int (Int32.ofInt n) :: st) h) := rfl
theorem g_bipush {J : Nat → SpS → List Value → List Value → AH → Prop} {Rt : Option Value → SpS → AH → Prop} {cap : Nat × Nat} {pc : Nat} {g : List Nat} {Sp : SpT} {S : SpS} {lv st : List Value} {h : AH} {L : List Item} {n : Int} : go J Rt cap ((pc, .bipush n, g, Sp) :: L) S lv st h = (go J Rt cap L S lv (.int (Int8.ofInt n).toInt32 :: st) h) := rfl
theorem g_sipush {J : Nat → SpS → List Value → List Value → AH → Prop} {Rt : Option Value → SpS → AH → Prop} {cap : Nat × Nat} {pc : Nat} {g : List Nat} {Sp : SpT} {S : SpS} {lv st : List Value} {h : AH} {L : List Item} {n : Int} : go J Rt cap ((pc, .sipush n, g, Sp) :: L) S lv st h = (go J Rt cap L S lv (.int (Int16.ofInt n).toInt32 :: st) h) := rfl
theorem g_lconst {J : Nat → SpS → List Value → List Value → AH → Prop} {Rt : Option Value → SpS → AH → Prop} {cap : Nat × Nat} {pc : Nat} {g : List Nat} {Sp : SpT} {S : SpS} {lv st : List Value} {h : AH} {L : List Item} {n : Fin 2} : go J Rt cap ((pc, .lconst n, g, Sp) :: L) S lv st h = (go J Rt cap L S lv (.long (Int64.ofNat n.val) :: st) h) := rfl
theorem g_iload {J : Nat → SpS → List Value → List Value → AH → Prop} {Rt : Option Value → SpS → AH → Prop} {cap : Nat × Nat} {pc : Nat} {g : List Nat} {Sp : SpT} {S : SpS} {lv st : List Value} {h : AH} {L : List Item} {i : Nat} : go J Rt cap ((pc, .iload i, g, Sp) :: L) S lv st h = (vI (gL lv i) (fun x => go J Rt cap L S lv (.int x :: st) h)) := rfl
theorem g_iload_n {J : Nat → SpS → List Value → List Value → AH → Prop} {Rt : Option Value → SpS → AH → Prop} {cap : Nat × Nat} {pc : Nat} {g : List Nat} {Sp : SpT} {S : SpS} {lv st : List Value} {h : AH} {L : List Item} {i : Fin 4} : go J Rt cap ((pc, .iload_n i, g, Sp) :: L) S lv st h = (vI (gL lv i.val) (fun x => go J Rt cap L S lv (.int x :: st) h)) := rfl
theorem g_lload {J : Nat → SpS → List Value → List Value → AH → Prop} {Rt : Option Value → SpS → AH → Prop} {cap : Nat × Nat} {pc : Nat} {g : List Nat} {Sp : SpT} {S : SpS} {lv st : List Value} {h : AH} {L : List Item} {i : Nat} : go J Rt cap ((pc, .lload i, g, Sp) :: L) S lv st h = (vL (gL lv i) (fun x => go J Rt cap L S lv (.long x :: st) h)) := rfl
theorem g_lload_n {J : Nat → SpS → List Value → List Value → AH → Prop} {Rt : Option Value → SpS → AH → Prop} {cap : Nat × Nat} {pc : Nat} {g : List Nat} {Sp : SpT} {S : SpS} {lv st : List Value} {h : AH} {L : List Item} {i : Fin 4} : go J Rt cap ((pc, .lload_n i, g, Sp) :: L) S lv st h = (vL (gL lv i.val) (fun x => go J Rt cap L S lv (.long x :: st) h)) := rfl
theorem g_aload {J : Nat → SpS → List Value → List Value → AH → Prop} {Rt : Option Value → SpS → AH → Prop} {cap : Nat × Nat} {pc : Nat} {g : List Nat} {Sp : SpT} {S : SpS} {lv st : List Value} {h : AH} {L : List Item} {i : Nat} : go J Rt cap ((pc, .aload i, g, Sp) :: L) S lv st h = (vR (gL lv i) (fun x => go J Rt cap L S lv (.ref x :: st) h)) := rfl
theorem g_aload_n {J : Nat → SpS → List Value → List Value → AH → Prop} {Rt : Option Value → SpS → AH → Prop} {cap : Nat × Nat} {pc : Nat} {g : List Nat} {Sp : SpT} {S : SpS} {lv st : List Value} {h : AH} {L : List Item} {i : Fin 4} : go J Rt cap ((pc, .aload_n i, g, Sp) :: L) S lv st h = (vR (gL lv i.val) (fun x => go J Rt cap L S lv (.ref x :: st) h)) := rfl
theorem g_istore {J : Nat → SpS → List Value → List Value → AH → Prop} {Rt : Option Value → SpS → AH → Prop} {cap : Nat × Nat} {pc : Nat} {g : List Nat} {Sp : SpT} {S : SpS} {lv st : List Value} {h : AH} {L : List Item} {i : Nat} : go J Rt cap ((pc, .istore i, g, Sp) :: L) S lv st h = (pI1 st (fun x r => i < lv.length ∧ go J Rt cap L S (sL lv i (.int x)) r h)) := rfl
theorem g_istore_n {J : Nat → SpS → List Value → List Value → AH → Prop} {Rt : Option Value → SpS → AH → Prop} {cap : Nat × Nat} {pc : Nat} {g : List Nat} {Sp : SpT} {S : SpS} {lv st : List Value} {h : AH} {L : List Item} {i : Fin 4} : go J Rt cap ((pc, .istore_n i, g, Sp) :: L) S lv st h = (pI1 st (fun x r => i.val < lv.length ∧ go J Rt cap L S (sL lv i.val (.int x)) r h)) := rfl
theorem g_lstore {J : Nat → SpS → List Value → List Value → AH → Prop} {Rt : Option Value → SpS → AH → Prop} {cap : Nat × Nat} {pc : Nat} {g : List Nat} {Sp : SpT} {S : SpS} {lv st : List Value} {h : AH} {L : List Item} {i : Nat} : go J Rt cap ((pc, .lstore i, g, Sp) :: L) S lv st h = (pL1 st (fun x r => i + 1 < lv.length ∧ go J Rt cap L S (sL2 lv i (.long x)) r h)) := rfl
theorem g_lstore_n {J : Nat → SpS → List Value → List Value → AH → Prop} {Rt : Option Value → SpS → AH → Prop} {cap : Nat × Nat} {pc : Nat} {g : List Nat} {Sp : SpT} {S : SpS} {lv st : List Value} {h : AH} {L : List Item} {i : Fin 4} : go J Rt cap ((pc, .lstore_n i, g, Sp) :: L) S lv st h = (pL1 st (fun x r => i.val + 1 < lv.length ∧ go J Rt cap L S (sL2 lv i.val (.long x)) r h)) := rfl
theorem g_astore {J : Nat → SpS → List Value → List Value → AH → Prop} {Rt : Option Value → SpS → AH → Prop} {cap : Nat × Nat} {pc : Nat} {g : List Nat} {Sp : SpT} {S : SpS} {lv st : List Value} {h : AH} {L : List Item} {i : Nat} : go J Rt cap ((pc, .astore i, g, Sp) :: L) S lv st h = (pR1 st (fun x r => i < lv.length ∧ go J Rt cap L S (sL lv i (.ref x)) r h)) := rfl
theorem g_astore_n {J : Nat → SpS → List Value → List Value → AH → Prop} {Rt : Option Value → SpS → AH → Prop} {cap : Nat × Nat} {pc : Nat} {g : List Nat} {Sp : SpT} {S : SpS} {lv st : List Value} {h : AH} {L : List Item} {i : Fin 4} : go J Rt cap ((pc, .astore_n i, g, Sp) :: L) S lv st h = (pR1 st (fun x r => i.val < lv.length ∧ go J Rt cap L S (sL lv i.val (.ref x)) r h)) := rfl
theorem g_iinc {J : Nat → SpS → List Value → List Value → AH → Prop} {Rt : Option Value → SpS → AH → Prop} {cap : Nat × Nat} {pc : Nat} {g : List Nat} {Sp : SpT} {S : SpS} {lv st : List Value} {h : AH} {L : List Item} {i : Nat} {n : Int} : go J Rt cap ((pc, .iinc i n, g, Sp) :: L) S lv st h = (vI (gL lv i) (fun x => i < lv.length ∧ go J Rt cap L S (sL lv i (.int (x + Int32.ofInt n))) st h)) := rfl
theorem g_iadd {J : Nat → SpS → List Value → List Value → AH → Prop} {Rt : Option Value → SpS → AH → Prop} {cap : Nat × Nat} {pc : Nat} {g : List Nat} {Sp : SpT} {S : SpS} {lv st : List Value} {h : AH} {L : List Item}  : go J Rt cap ((pc, .iadd, g, Sp) :: L) S lv st h = (pII st (fun x y r => go J Rt cap L S lv (.int (x + y) :: r) h)) := rfl
theorem g_isub {J : Nat → SpS → List Value → List Value → AH → Prop} {Rt : Option Value → SpS → AH → Prop} {cap : Nat × Nat} {pc : Nat} {g : List Nat} {Sp : SpT} {S : SpS} {lv st : List Value} {h : AH} {L : List Item}  : go J Rt cap ((pc, .isub, g, Sp) :: L) S lv st h = (pII st (fun x y r => go J Rt cap L S lv (.int (x - y) :: r) h)) := rfl
theorem g_imul {J : Nat → SpS → List Value → List Value → AH → Prop} {Rt : Option Value → SpS → AH → Prop} {cap : Nat × Nat} {pc : Nat} {g : List Nat} {Sp : SpT} {S : SpS} {lv st : List Value} {h : AH} {L : List Item}  : go J Rt cap ((pc, .imul, g, Sp) :: L) S lv st h = (pII st (fun x y r => go J Rt cap L S lv (.int (x * y) :: r) h)) := rfl
theorem g_iand {J : Nat → SpS → List Value → List Value → AH → Prop} {Rt : Option Value → SpS → AH → Prop} {cap : Nat × Nat} {pc : Nat} {g : List Nat} {Sp : SpT} {S : SpS} {lv st : List Value} {h : AH} {L : List Item}  : go J Rt cap ((pc, .iand, g, Sp) :: L) S lv st h = (pII st (fun x y r => go J Rt cap L S lv (.int (x &&& y) :: r) h)) := rfl
theorem g_ior {J : Nat → SpS → List Value → List Value → AH → Prop} {Rt : Option Value → SpS → AH → Prop} {cap : Nat × Nat} {pc : Nat} {g : List Nat} {Sp : SpT} {S : SpS} {lv st : List Value} {h : AH} {L : List Item}  : go J Rt cap ((pc, .ior, g, Sp) :: L) S lv st h = (pII st (fun x y r => go J Rt cap L S lv (.int (x ||| y) :: r) h)) := rfl
theorem g_ixor {J : Nat → SpS → List Value → List Value → AH → Prop} {Rt : Option Value → SpS → AH → Prop} {cap : Nat × Nat} {pc : Nat} {g : List Nat} {Sp : SpT} {S : SpS} {lv st : List Value} {h : AH} {L : List Item}  : go J Rt cap ((pc, .ixor, g, Sp) :: L) S lv st h = (pII st (fun x y r => go J Rt cap L S lv (.int (x ^^^ y) :: r) h)) := rfl
theorem g_ishl {J : Nat → SpS → List Value → List Value → AH → Prop} {Rt : Option Value → SpS → AH → Prop} {cap : Nat × Nat} {pc : Nat} {g : List Nat} {Sp : SpT} {S : SpS} {lv st : List Value} {h : AH} {L : List Item}  : go J Rt cap ((pc, .ishl, g, Sp) :: L) S lv st h = (pII st (fun x y r => go J Rt cap L S lv (.int (x <<< (y &&& 31)) :: r) h)) := rfl
theorem g_ishr {J : Nat → SpS → List Value → List Value → AH → Prop} {Rt : Option Value → SpS → AH → Prop} {cap : Nat × Nat} {pc : Nat} {g : List Nat} {Sp : SpT} {S : SpS} {lv st : List Value} {h : AH} {L : List Item}  : go J Rt cap ((pc, .ishr, g, Sp) :: L) S lv st h = (pII st (fun x y r => go J Rt cap L S lv (.int (x >>> (y &&& 31)) :: r) h)) := rfl
theorem g_iushr {J : Nat → SpS → List Value → List Value → AH → Prop} {Rt : Option Value → SpS → AH → Prop} {cap : Nat × Nat} {pc : Nat} {g : List Nat} {Sp : SpT} {S : SpS} {lv st : List Value} {h : AH} {L : List Item}  : go J Rt cap ((pc, .iushr, g, Sp) :: L) S lv st h = (pII st (fun x y r => go J Rt cap L S lv (.int ((x.toUInt32 >>> (y.toUInt32 &&& Int32.toUInt32 31)).toInt32) :: r) h)) := rfl
theorem g_idiv {J : Nat → SpS → List Value → List Value → AH → Prop} {Rt : Option Value → SpS → AH → Prop} {cap : Nat × Nat} {pc : Nat} {g : List Nat} {Sp : SpT} {S : SpS} {lv st : List Value} {h : AH} {L : List Item}  : go J Rt cap ((pc, .idiv, g, Sp) :: L) S lv st h = (pII st (fun x y r => ¬ y = 0 ∧ go J Rt cap L S lv (.int (x / y) :: r) h)) := rfl
theorem g_irem {J : Nat → SpS → List Value → List Value → AH → Prop} {Rt : Option Value → SpS → AH → Prop} {cap : Nat × Nat} {pc : Nat} {g : List Nat} {Sp : SpT} {S : SpS} {lv st : List Value} {h : AH} {L : List Item}  : go J Rt cap ((pc, .irem, g, Sp) :: L) S lv st h = (pII st (fun x y r => ¬ y = 0 ∧ go J Rt cap L S lv (.int (x - x / y * y) :: r) h)) := rfl
theorem g_ladd {J : Nat → SpS → List Value → List Value → AH → Prop} {Rt : Option Value → SpS → AH → Prop} {cap : Nat × Nat} {pc : Nat} {g : List Nat} {Sp : SpT} {S : SpS} {lv st : List Value} {h : AH} {L : List Item}  : go J Rt cap ((pc, .ladd, g, Sp) :: L) S lv st h = (pLL st (fun x y r => go J Rt cap L S lv (.long (x + y) :: r) h)) := rfl
theorem g_lsub {J : Nat → SpS → List Value → List Value → AH → Prop} {Rt : Option Value → SpS → AH → Prop} {cap : Nat × Nat} {pc : Nat} {g : List Nat} {Sp : SpT} {S : SpS} {lv st : List Value} {h : AH} {L : List Item}  : go J Rt cap ((pc, .lsub, g, Sp) :: L) S lv st h = (pLL st (fun x y r => go J Rt cap L S lv (.long (x - y) :: r) h)) := rfl
theorem g_lmul {J : Nat → SpS → List Value → List Value → AH → Prop} {Rt : Option Value → SpS → AH → Prop} {cap : Nat × Nat} {pc : Nat} {g : List Nat} {Sp : SpT} {S : SpS} {lv st : List Value} {h : AH} {L : List Item}  : go J Rt cap ((pc, .lmul, g, Sp) :: L) S lv st h = (pLL st (fun x y r => go J Rt cap L S lv (.long (x * y) :: r) h)) := rfl
theorem g_land {J : Nat → SpS → List Value → List Value → AH → Prop} {Rt : Option Value → SpS → AH → Prop} {cap : Nat × Nat} {pc : Nat} {g : List Nat} {Sp : SpT} {S : SpS} {lv st : List Value} {h : AH} {L : List Item}  : go J Rt cap ((pc, .land, g, Sp) :: L) S lv st h = (pLL st (fun x y r => go J Rt cap L S lv (.long (x &&& y) :: r) h)) := rfl
theorem g_lor {J : Nat → SpS → List Value → List Value → AH → Prop} {Rt : Option Value → SpS → AH → Prop} {cap : Nat × Nat} {pc : Nat} {g : List Nat} {Sp : SpT} {S : SpS} {lv st : List Value} {h : AH} {L : List Item}  : go J Rt cap ((pc, .lor, g, Sp) :: L) S lv st h = (pLL st (fun x y r => go J Rt cap L S lv (.long (x ||| y) :: r) h)) := rfl
theorem g_ldiv {J : Nat → SpS → List Value → List Value → AH → Prop} {Rt : Option Value → SpS → AH → Prop} {cap : Nat × Nat} {pc : Nat} {g : List Nat} {Sp : SpT} {S : SpS} {lv st : List Value} {h : AH} {L : List Item}  : go J Rt cap ((pc, .ldiv, g, Sp) :: L) S lv st h = (pLL st (fun x y r => ¬ y = 0 ∧ go J Rt cap L S lv (.long (x / y) :: r) h)) := rfl
theorem g_lrem {J : Nat → SpS → List Value → List Value → AH → Prop} {Rt : Option Value → SpS → AH → Prop} {cap : Nat × Nat} {pc : Nat} {g : List Nat} {Sp : SpT} {S : SpS} {lv st : List Value} {h : AH} {L : List Item}  : go J Rt cap ((pc, .lrem, g, Sp) :: L) S lv st h = (pLL st (fun x y r => ¬ y = 0 ∧ go J Rt cap L S lv (.long (x - x / y * y) :: r) h)) := rfl
theorem g_lshl {J : Nat → SpS → List Value → List Value → AH → Prop} {Rt : Option Value → SpS → AH → Prop} {cap : Nat × Nat} {pc : Nat} {g : List Nat} {Sp : SpT} {S : SpS} {lv st : List Value} {h : AH} {L : List Item}  : go J Rt cap ((pc, .lshl, g, Sp) :: L) S lv st h = (pLI st (fun x y r => go J Rt cap L S lv (.long (x <<< (y.toInt64 &&& 63)) :: r) h)) := rfl
theorem g_lshr {J : Nat → SpS → List Value → List Value → AH → Prop} {Rt : Option Value → SpS → AH → Prop} {cap : Nat × Nat} {pc : Nat} {g : List Nat} {Sp : SpT} {S : SpS} {lv st : List Value} {h : AH} {L : List Item}  : go J Rt cap ((pc, .lshr, g, Sp) :: L) S lv st h = (pLI st (fun x y r => go J Rt cap L S lv (.long (x >>> (y.toInt64 &&& 63)) :: r) h)) := rfl
theorem g_lcmp {J : Nat → SpS → List Value → List Value → AH → Prop} {Rt : Option Value → SpS → AH → Prop} {cap : Nat × Nat} {pc : Nat} {g : List Nat} {Sp : SpT} {S : SpS} {lv st : List Value} {h : AH} {L : List Item}  : go J Rt cap ((pc, .lcmp, g, Sp) :: L) S lv st h = (pLL st (fun x y r => go J Rt cap L S lv (.int (lg_cmp x y) :: r) h)) := rfl
theorem g_i2l {J : Nat → SpS → List Value → List Value → AH → Prop} {Rt : Option Value → SpS → AH → Prop} {cap : Nat × Nat} {pc : Nat} {g : List Nat} {Sp : SpT} {S : SpS} {lv st : List Value} {h : AH} {L : List Item}  : go J Rt cap ((pc, .i2l, g, Sp) :: L) S lv st h = (pI1 st (fun x r => go J Rt cap L S lv (.long x.toInt64 :: r) h)) := rfl
theorem g_l2i {J : Nat → SpS → List Value → List Value → AH → Prop} {Rt : Option Value → SpS → AH → Prop} {cap : Nat × Nat} {pc : Nat} {g : List Nat} {Sp : SpT} {S : SpS} {lv st : List Value} {h : AH} {L : List Item}  : go J Rt cap ((pc, .l2i, g, Sp) :: L) S lv st h = (pL1 st (fun x r => go J Rt cap L S lv (.int x.toInt32 :: r) h)) := rfl
theorem g_i2b {J : Nat → SpS → List Value → List Value → AH → Prop} {Rt : Option Value → SpS → AH → Prop} {cap : Nat × Nat} {pc : Nat} {g : List Nat} {Sp : SpT} {S : SpS} {lv st : List Value} {h : AH} {L : List Item}  : go J Rt cap ((pc, .i2b, g, Sp) :: L) S lv st h = (pI1 st (fun x r => go J Rt cap L S lv (.int x.toInt8.toInt32 :: r) h)) := rfl
theorem g_i2s {J : Nat → SpS → List Value → List Value → AH → Prop} {Rt : Option Value → SpS → AH → Prop} {cap : Nat × Nat} {pc : Nat} {g : List Nat} {Sp : SpT} {S : SpS} {lv st : List Value} {h : AH} {L : List Item}  : go J Rt cap ((pc, .i2s, g, Sp) :: L) S lv st h = (pI1 st (fun x r => go J Rt cap L S lv (.int x.toInt16.toInt32 :: r) h)) := rfl
theorem g_dup {J : Nat → SpS → List Value → List Value → AH → Prop} {Rt : Option Value → SpS → AH → Prop} {cap : Nat × Nat} {pc : Nat} {g : List Nat} {Sp : SpT} {S : SpS} {lv st : List Value} {h : AH} {L : List Item}  : go J Rt cap ((pc, .dup, g, Sp) :: L) S lv st h = (pV1 st (fun v r => go J Rt cap L S lv (v :: v :: r) h)) := rfl
theorem g_pop {J : Nat → SpS → List Value → List Value → AH → Prop} {Rt : Option Value → SpS → AH → Prop} {cap : Nat × Nat} {pc : Nat} {g : List Nat} {Sp : SpT} {S : SpS} {lv st : List Value} {h : AH} {L : List Item}  : go J Rt cap ((pc, .pop, g, Sp) :: L) S lv st h = (pV1 st (fun v r => go J Rt cap L S lv r h)) := rfl
theorem g_dup_x1 {J : Nat → SpS → List Value → List Value → AH → Prop} {Rt : Option Value → SpS → AH → Prop} {cap : Nat × Nat} {pc : Nat} {g : List Nat} {Sp : SpT} {S : SpS} {lv st : List Value} {h : AH} {L : List Item}  : go J Rt cap ((pc, .dup_x1, g, Sp) :: L) S lv st h = (pV2 st (fun v u r => go J Rt cap L S lv (v :: u :: v :: r) h)) := rfl
theorem g_dup_x2 {J : Nat → SpS → List Value → List Value → AH → Prop} {Rt : Option Value → SpS → AH → Prop} {cap : Nat × Nat} {pc : Nat} {g : List Nat} {Sp : SpT} {S : SpS} {lv st : List Value} {h : AH} {L : List Item}  : go J Rt cap ((pc, .dup_x2, g, Sp) :: L) S lv st h = (pV3 st (fun v u t r => go J Rt cap L S lv (v :: u :: t :: v :: r) h)) := rfl
theorem g_dup2 {J : Nat → SpS → List Value → List Value → AH → Prop} {Rt : Option Value → SpS → AH → Prop} {cap : Nat × Nat} {pc : Nat} {g : List Nat} {Sp : SpT} {S : SpS} {lv st : List Value} {h : AH} {L : List Item}  : go J Rt cap ((pc, .dup2, g, Sp) :: L) S lv st h = (pV2 st (fun v u r => go J Rt cap L S lv (v :: u :: v :: u :: r) h)) := rfl
theorem g_if_eq {J : Nat → SpS → List Value → List Value → AH → Prop} {Rt : Option Value → SpS → AH → Prop} {cap : Nat × Nat} {pc : Nat} {g : List Nat} {Sp : SpT} {S : SpS} {lv st : List Value} {h : AH} {L : List Item} {off : Int} : go J Rt cap ((pc, .ifCond .eq off, g, Sp) :: L) S lv st h = (pI1 st (fun x r => br1 g (fun t => (x = 0 → J t S lv r h) ∧ (¬ x = 0 → go J Rt cap L S lv r h)))) := rfl
theorem g_if_ne {J : Nat → SpS → List Value → List Value → AH → Prop} {Rt : Option Value → SpS → AH → Prop} {cap : Nat × Nat} {pc : Nat} {g : List Nat} {Sp : SpT} {S : SpS} {lv st : List Value} {h : AH} {L : List Item} {off : Int} : go J Rt cap ((pc, .ifCond .ne off, g, Sp) :: L) S lv st h = (pI1 st (fun x r => br1 g (fun t => (¬ x = 0 → J t S lv r h) ∧ (x = 0 → go J Rt cap L S lv r h)))) := rfl
theorem g_if_lt {J : Nat → SpS → List Value → List Value → AH → Prop} {Rt : Option Value → SpS → AH → Prop} {cap : Nat × Nat} {pc : Nat} {g : List Nat} {Sp : SpT} {S : SpS} {lv st : List Value} {h : AH} {L : List Item} {off : Int} : go J Rt cap ((pc, .ifCond .lt off, g, Sp) :: L) S lv st h = (pI1 st (fun x r => br1 g (fun t => (x < 0 → J t S lv r h) ∧ (¬ x < 0 → go J Rt cap L S lv r h)))) := rfl
theorem g_if_ge {J : Nat → SpS → List Value → List Value → AH → Prop} {Rt : Option Value → SpS → AH → Prop} {cap : Nat × Nat} {pc : Nat} {g : List Nat} {Sp : SpT} {S : SpS} {lv st : List Value} {h : AH} {L : List Item} {off : Int} : go J Rt cap ((pc, .ifCond .ge off, g, Sp) :: L) S lv st h = (pI1 st (fun x r => br1 g (fun t => (0 ≤ x → J t S lv r h) ∧ (¬ 0 ≤ x → go J Rt cap L S lv r h)))) := rfl
theorem g_if_gt {J : Nat → SpS → List Value → List Value → AH → Prop} {Rt : Option Value → SpS → AH → Prop} {cap : Nat × Nat} {pc : Nat} {g : List Nat} {Sp : SpT} {S : SpS} {lv st : List Value} {h : AH} {L : List Item} {off : Int} : go J Rt cap ((pc, .ifCond .gt off, g, Sp) :: L) S lv st h = (pI1 st (fun x r => br1 g (fun t => (0 < x → J t S lv r h) ∧ (¬ 0 < x → go J Rt cap L S lv r h)))) := rfl
theorem g_if_le {J : Nat → SpS → List Value → List Value → AH → Prop} {Rt : Option Value → SpS → AH → Prop} {cap : Nat × Nat} {pc : Nat} {g : List Nat} {Sp : SpT} {S : SpS} {lv st : List Value} {h : AH} {L : List Item} {off : Int} : go J Rt cap ((pc, .ifCond .le off, g, Sp) :: L) S lv st h = (pI1 st (fun x r => br1 g (fun t => (x ≤ 0 → J t S lv r h) ∧ (¬ x ≤ 0 → go J Rt cap L S lv r h)))) := rfl
theorem g_ic_eq {J : Nat → SpS → List Value → List Value → AH → Prop} {Rt : Option Value → SpS → AH → Prop} {cap : Nat × Nat} {pc : Nat} {g : List Nat} {Sp : SpT} {S : SpS} {lv st : List Value} {h : AH} {L : List Item} {off : Int} : go J Rt cap ((pc, .if_icmp .eq off, g, Sp) :: L) S lv st h = (pII st (fun x y r => br1 g (fun t => (x = y → J t S lv r h) ∧ (¬ x = y → go J Rt cap L S lv r h)))) := rfl
theorem g_ic_ne {J : Nat → SpS → List Value → List Value → AH → Prop} {Rt : Option Value → SpS → AH → Prop} {cap : Nat × Nat} {pc : Nat} {g : List Nat} {Sp : SpT} {S : SpS} {lv st : List Value} {h : AH} {L : List Item} {off : Int} : go J Rt cap ((pc, .if_icmp .ne off, g, Sp) :: L) S lv st h = (pII st (fun x y r => br1 g (fun t => (¬ x = y → J t S lv r h) ∧ (x = y → go J Rt cap L S lv r h)))) := rfl
theorem g_ic_lt {J : Nat → SpS → List Value → List Value → AH → Prop} {Rt : Option Value → SpS → AH → Prop} {cap : Nat × Nat} {pc : Nat} {g : List Nat} {Sp : SpT} {S : SpS} {lv st : List Value} {h : AH} {L : List Item} {off : Int} : go J Rt cap ((pc, .if_icmp .lt off, g, Sp) :: L) S lv st h = (pII st (fun x y r => br1 g (fun t => (x < y → J t S lv r h) ∧ (¬ x < y → go J Rt cap L S lv r h)))) := rfl
theorem g_ic_ge {J : Nat → SpS → List Value → List Value → AH → Prop} {Rt : Option Value → SpS → AH → Prop} {cap : Nat × Nat} {pc : Nat} {g : List Nat} {Sp : SpT} {S : SpS} {lv st : List Value} {h : AH} {L : List Item} {off : Int} : go J Rt cap ((pc, .if_icmp .ge off, g, Sp) :: L) S lv st h = (pII st (fun x y r => br1 g (fun t => (y ≤ x → J t S lv r h) ∧ (¬ y ≤ x → go J Rt cap L S lv r h)))) := rfl
theorem g_ic_gt {J : Nat → SpS → List Value → List Value → AH → Prop} {Rt : Option Value → SpS → AH → Prop} {cap : Nat × Nat} {pc : Nat} {g : List Nat} {Sp : SpT} {S : SpS} {lv st : List Value} {h : AH} {L : List Item} {off : Int} : go J Rt cap ((pc, .if_icmp .gt off, g, Sp) :: L) S lv st h = (pII st (fun x y r => br1 g (fun t => (y < x → J t S lv r h) ∧ (¬ y < x → go J Rt cap L S lv r h)))) := rfl
theorem g_ic_le {J : Nat → SpS → List Value → List Value → AH → Prop} {Rt : Option Value → SpS → AH → Prop} {cap : Nat × Nat} {pc : Nat} {g : List Nat} {Sp : SpT} {S : SpS} {lv st : List Value} {h : AH} {L : List Item} {off : Int} : go J Rt cap ((pc, .if_icmp .le off, g, Sp) :: L) S lv st h = (pII st (fun x y r => br1 g (fun t => (x ≤ y → J t S lv r h) ∧ (¬ x ≤ y → go J Rt cap L S lv r h)))) := rfl
theorem g_goto {J : Nat → SpS → List Value → List Value → AH → Prop} {Rt : Option Value → SpS → AH → Prop} {cap : Nat × Nat} {pc : Nat} {g : List Nat} {Sp : SpT} {S : SpS} {lv st : List Value} {h : AH} {L : List Item} {off : Int} : go J Rt cap ((pc, .goto off, g, Sp) :: L) S lv st h = (br1 g (fun t => J t S lv st h)) := rfl
theorem g_tableswitch {J : Nat → SpS → List Value → List Value → AH → Prop} {Rt : Option Value → SpS → AH → Prop} {cap : Nat × Nat} {pc : Nat} {g : List Nat} {Sp : SpT} {S : SpS} {lv st : List Value} {h : AH} {L : List Item} {d lo hi : Int} {offs : Array Int} : go J Rt cap ((pc, .tableswitch d lo hi offs, g, Sp) :: L) S lv st h = (pI1 st (fun x r => swJ (fun t => J t S lv r h) x lo True g)) := rfl
theorem g_getfield {J : Nat → SpS → List Value → List Value → AH → Prop} {Rt : Option Value → SpS → AH → Prop} {cap : Nat × Nat} {pc : Nat} {g : List Nat} {Sp : SpT} {S : SpS} {lv st : List Value} {h : AH} {L : List Item} {idx : Nat} : go J Rt cap ((pc, .getfield idx, g, Sp) :: L) S lv st h = (gtF g st S (fun a ci kk f r => (tC S a).1 = ci ∧ go J Rt cap L S lv ((if f = 0 then .int (gI h a kk) else rv (rC S a kk)) :: r) h)) := rfl
theorem g_putfield {J : Nat → SpS → List Value → List Value → AH → Prop} {Rt : Option Value → SpS → AH → Prop} {cap : Nat × Nat} {pc : Nat} {g : List Nat} {Sp : SpT} {S : SpS} {lv st : List Value} {h : AH} {L : List Item} {idx : Nat} : go J Rt cap ((pc, .putfield idx, g, Sp) :: L) S lv st h = (ptF g st (fun a ci kk x r => (tC S a).1 = ci ∧ (bF ci kk = true → x = 0 ∨ x = 1) ∧ go J Rt cap L S lv r (pI h a kk x)) (fun a ci kk b r => (tC S a).1 = ci ∧ go J Rt cap L (pR S a kk (b + 1)) lv r h)) := rfl
theorem g_iaload {J : Nat → SpS → List Value → List Value → AH → Prop} {Rt : Option Value → SpS → AH → Prop} {cap : Nat × Nat} {pc : Nat} {g : List Nat} {Sp : SpT} {S : SpS} {lv st : List Value} {h : AH} {L : List Item}  : go J Rt cap ((pc, .iaload, g, Sp) :: L) S lv st h = (pIR st (fun a i r => (tC S a).1 = 10 ∧ vp_in i (tC S a).2 ∧ go J Rt cap L S lv (.int (gI h a i.toNatClampNeg) :: r) h)) := rfl
theorem g_laload {J : Nat → SpS → List Value → List Value → AH → Prop} {Rt : Option Value → SpS → AH → Prop} {cap : Nat × Nat} {pc : Nat} {g : List Nat} {Sp : SpT} {S : SpS} {lv st : List Value} {h : AH} {L : List Item}  : go J Rt cap ((pc, .laload, g, Sp) :: L) S lv st h = (pIR st (fun a i r => (tC S a).1 = 11 ∧ vp_in i (tC S a).2 ∧ go J Rt cap L S lv (.long (gJ h a i.toNatClampNeg) :: r) h)) := rfl
theorem g_aaload {J : Nat → SpS → List Value → List Value → AH → Prop} {Rt : Option Value → SpS → AH → Prop} {cap : Nat × Nat} {pc : Nat} {g : List Nat} {Sp : SpT} {S : SpS} {lv st : List Value} {h : AH} {L : List Item}  : go J Rt cap ((pc, .aaload, g, Sp) :: L) S lv st h = (pIR st (fun a i r => ((tC S a).1 = 12 ∨ (tC S a).1 = 13) ∧ vp_in i (tC S a).2 ∧ go J Rt cap L S lv (rv (rC S a i.toNatClampNeg) :: r) h)) := rfl
theorem g_iastore {J : Nat → SpS → List Value → List Value → AH → Prop} {Rt : Option Value → SpS → AH → Prop} {cap : Nat × Nat} {pc : Nat} {g : List Nat} {Sp : SpT} {S : SpS} {lv st : List Value} {h : AH} {L : List Item}  : go J Rt cap ((pc, .iastore, g, Sp) :: L) S lv st h = (pIIR st (fun a i x r => (tC S a).1 = 10 ∧ vp_in i (tC S a).2 ∧ go J Rt cap L S lv r (pI h a i.toNatClampNeg x))) := rfl
theorem g_lastore {J : Nat → SpS → List Value → List Value → AH → Prop} {Rt : Option Value → SpS → AH → Prop} {cap : Nat × Nat} {pc : Nat} {g : List Nat} {Sp : SpT} {S : SpS} {lv st : List Value} {h : AH} {L : List Item}  : go J Rt cap ((pc, .lastore, g, Sp) :: L) S lv st h = (pLIR st (fun a i x r => (tC S a).1 = 11 ∧ vp_in i (tC S a).2 ∧ go J Rt cap L S lv r (pJ h a i.toNatClampNeg x))) := rfl
theorem g_aastore {J : Nat → SpS → List Value → List Value → AH → Prop} {Rt : Option Value → SpS → AH → Prop} {cap : Nat × Nat} {pc : Nat} {g : List Nat} {Sp : SpT} {S : SpS} {lv st : List Value} {h : AH} {L : List Item}  : go J Rt cap ((pc, .aastore, g, Sp) :: L) S lv st h = (pRIR st (fun a i b r => (((tC S a).1 = 12 ∧ (tC S b).1 = 1) ∨ ((tC S a).1 = 13 ∧ (tC S b).1 = 3)) ∧ vp_in i (tC S a).2 ∧ go J Rt cap L (pR S a i.toNatClampNeg (b + 1)) lv r h)) := rfl
theorem g_arraylength {J : Nat → SpS → List Value → List Value → AH → Prop} {Rt : Option Value → SpS → AH → Prop} {cap : Nat × Nat} {pc : Nat} {g : List Nat} {Sp : SpT} {S : SpS} {lv st : List Value} {h : AH} {L : List Item}  : go J Rt cap ((pc, .arraylength, g, Sp) :: L) S lv st h = (pR1 st (fun a r => ((tC S a).1 = 10 ∨ (tC S a).1 = 11) ∧ go J Rt cap L S lv (.int (nI (tC S a).2) :: r) h)) := rfl
theorem g_ldc {J : Nat → SpS → List Value → List Value → AH → Prop} {Rt : Option Value → SpS → AH → Prop} {cap : Nat × Nat} {pc : Nat} {g : List Nat} {Sp : SpT} {S : SpS} {lv st : List Value} {h : AH} {L : List Item} {idx : Nat} : go J Rt cap ((pc, .ldc idx, g, Sp) :: L) S lv st h = (ldK g (fun v => go J Rt cap L S lv (v :: st) h)) := rfl
theorem g_ldc_w {J : Nat → SpS → List Value → List Value → AH → Prop} {Rt : Option Value → SpS → AH → Prop} {cap : Nat × Nat} {pc : Nat} {g : List Nat} {Sp : SpT} {S : SpS} {lv st : List Value} {h : AH} {L : List Item} {idx : Nat} : go J Rt cap ((pc, .ldc_w idx, g, Sp) :: L) S lv st h = (ldK g (fun v => go J Rt cap L S lv (v :: st) h)) := rfl
theorem g_ldc2_w {J : Nat → SpS → List Value → List Value → AH → Prop} {Rt : Option Value → SpS → AH → Prop} {cap : Nat × Nat} {pc : Nat} {g : List Nat} {Sp : SpT} {S : SpS} {lv st : List Value} {h : AH} {L : List Item} {idx : Nat} : go J Rt cap ((pc, .ldc2_w idx, g, Sp) :: L) S lv st h = (br1 g (fun v => ∀ x : Int64, x = cstW v → go J Rt cap L S lv (.long x :: st) h)) := rfl
theorem g_new {J : Nat → SpS → List Value → List Value → AH → Prop} {Rt : Option Value → SpS → AH → Prop} {cap : Nat × Nat} {pc : Nat} {g : List Nat} {Sp : SpT} {S : SpS} {lv st : List Value} {h : AH} {L : List Item} {idx : Nat} : go J Rt cap ((pc, .new idx, g, Sp) :: L) S lv st h = (br1 g (fun ci => (nC S + 1 ≤ 100000 ∧ nC S + 1 ≤ cap.1 ∧ sC S + nF ci ≤ cap.2) ∧ go J Rt cap L (nwS S ci 0 (nF ci)) lv (.ref (nC S) :: st) (zA h (nC S)))) := rfl
theorem g_newarray_int {J : Nat → SpS → List Value → List Value → AH → Prop} {Rt : Option Value → SpS → AH → Prop} {cap : Nat × Nat} {pc : Nat} {g : List Nat} {Sp : SpT} {S : SpS} {lv st : List Value} {h : AH} {L : List Item}  : go J Rt cap ((pc, .newarray .int, g, Sp) :: L) S lv st h = (pI1 st (fun n r => (¬ n < 0 ∧ n.toNatClampNeg ≤ 100000 ∧ nC S + 1 ≤ 100000 ∧ nC S + 1 ≤ cap.1 ∧ sC S + n.toNatClampNeg ≤ cap.2) ∧ go J Rt cap L (nwS S 10 n.toNatClampNeg n.toNatClampNeg) lv (.ref (nC S) :: r) (zA h (nC S)))) := rfl
theorem g_newarray_long {J : Nat → SpS → List Value → List Value → AH → Prop} {Rt : Option Value → SpS → AH → Prop} {cap : Nat × Nat} {pc : Nat} {g : List Nat} {Sp : SpT} {S : SpS} {lv st : List Value} {h : AH} {L : List Item}  : go J Rt cap ((pc, .newarray .long, g, Sp) :: L) S lv st h = (pI1 st (fun n r => (¬ n < 0 ∧ n.toNatClampNeg ≤ 100000 ∧ nC S + 1 ≤ 100000 ∧ nC S + 1 ≤ cap.1 ∧ sC S + n.toNatClampNeg ≤ cap.2) ∧ go J Rt cap L (nwS S 11 n.toNatClampNeg n.toNatClampNeg) lv (.ref (nC S) :: r) (zA h (nC S)))) := rfl
theorem g_anewarray {J : Nat → SpS → List Value → List Value → AH → Prop} {Rt : Option Value → SpS → AH → Prop} {cap : Nat × Nat} {pc : Nat} {g : List Nat} {Sp : SpT} {S : SpS} {lv st : List Value} {h : AH} {L : List Item} {idx : Nat} : go J Rt cap ((pc, .anewarray idx, g, Sp) :: L) S lv st h = (br1 g (fun co => pI1 st (fun n r => (¬ n < 0 ∧ n.toNatClampNeg ≤ 100000 ∧ nC S + 1 ≤ 100000 ∧ nC S + 1 ≤ cap.1 ∧ sC S + n.toNatClampNeg ≤ cap.2) ∧ go J Rt cap L (nwS S co n.toNatClampNeg n.toNatClampNeg) lv (.ref (nC S) :: r) (zA h (nC S))))) := rfl
theorem g_invokevirtual {J : Nat → SpS → List Value → List Value → AH → Prop} {Rt : Option Value → SpS → AH → Prop} {cap : Nat × Nat} {pc : Nat} {g : List Nat} {Sp : SpT} {S : SpS} {lv st : List Value} {h : AH} {L : List Item} {idx : Nat} : go J Rt cap ((pc, .invokevirtual idx, g, Sp) :: L) S lv st h = (cV g st S (fun b ci As r mc ms => (ci = 100 → 100000 ≤ b ∧ b < 100007) ∧ (ci ≠ 100 → (tC S b).1 = ci) ∧ r.length ≤ 4 ∧ capO cap S mc ms ∧ Sp S (.ref b :: As) h (fun v S' h' => go J Rt cap L S' lv (v.toList ++ r) h'))) := rfl
theorem g_invokespecial {J : Nat → SpS → List Value → List Value → AH → Prop} {Rt : Option Value → SpS → AH → Prop} {cap : Nat × Nat} {pc : Nat} {g : List Nat} {Sp : SpT} {S : SpS} {lv st : List Value} {h : AH} {L : List Item} {idx : Nat} : go J Rt cap ((pc, .invokespecial idx, g, Sp) :: L) S lv st h = (cI g st S (fun a r => r.length ≤ 4 ∧ go J Rt cap L S lv r h) (fun b As r mc ms => (tC S b).1 ≠ 99 ∧ r.length ≤ 4 ∧ capO cap S mc ms ∧ Sp S (.ref b :: As) h (fun v S' h' => go J Rt cap L S' lv (v.toList ++ r) h'))) := rfl
theorem g_invokestatic {J : Nat → SpS → List Value → List Value → AH → Prop} {Rt : Option Value → SpS → AH → Prop} {cap : Nat × Nat} {pc : Nat} {g : List Nat} {Sp : SpT} {S : SpS} {lv st : List Value} {h : AH} {L : List Item} {idx : Nat} : go J Rt cap ((pc, .invokestatic idx, g, Sp) :: L) S lv st h = (cS g st (fun As r mc ms => r.length ≤ 4 ∧ capO cap S mc ms ∧ Sp S As h (fun v S' h' => go J Rt cap L S' lv (v.toList ++ r) h'))
    (fun x y r => r.length ≤ 4 ∧ go J Rt cap L S lv (.int (if y < x then y else x) :: r) h) (fun x y r => r.length ≤ 4 ∧ go J Rt cap L S lv (.int (if x < y then y else x) :: r) h)
    (fun a sp b dp n r => (tC S a).1 = 10 ∧ (tC S b).1 = 10 ∧ (¬ sp < 0 ∧ ¬ dp < 0 ∧ ¬ n < 0 ∧ sp.toNatClampNeg + n.toNatClampNeg ≤ (tC S a).2 ∧ dp.toNatClampNeg + n.toNatClampNeg ≤ (tC S b).2) ∧ r.length ≤ 4 ∧ go J Rt cap L S lv r (rowI h b (va_cpy (gI h a) (gI h b) sp.toNatClampNeg dp.toNatClampNeg n.toNatClampNeg)))
    (fun a sp b dp n r => (tC S a).1 = 11 ∧ (tC S b).1 = 11 ∧ (¬ sp < 0 ∧ ¬ dp < 0 ∧ ¬ n < 0 ∧ sp.toNatClampNeg + n.toNatClampNeg ≤ (tC S a).2 ∧ dp.toNatClampNeg + n.toNatClampNeg ≤ (tC S b).2) ∧ r.length ≤ 4 ∧ go J Rt cap L S lv r (rowJ h b (va_cpy (gJ h a) (gJ h b) sp.toNatClampNeg dp.toNatClampNeg n.toNatClampNeg)))) := rfl
theorem g_ireturn {J : Nat → SpS → List Value → List Value → AH → Prop} {Rt : Option Value → SpS → AH → Prop} {cap : Nat × Nat} {pc : Nat} {g : List Nat} {Sp : SpT} {S : SpS} {lv st : List Value} {h : AH} {L : List Item}  : go J Rt cap ((pc, .ireturn, g, Sp) :: L) S lv st h = (pI1 st (fun x r => eSt r (Rt (some (.int x)) S h))) := rfl
theorem g_lreturn {J : Nat → SpS → List Value → List Value → AH → Prop} {Rt : Option Value → SpS → AH → Prop} {cap : Nat × Nat} {pc : Nat} {g : List Nat} {Sp : SpT} {S : SpS} {lv st : List Value} {h : AH} {L : List Item}  : go J Rt cap ((pc, .lreturn, g, Sp) :: L) S lv st h = (pL1 st (fun x r => eSt r (Rt (some (.long x)) S h))) := rfl
theorem g_areturn {J : Nat → SpS → List Value → List Value → AH → Prop} {Rt : Option Value → SpS → AH → Prop} {cap : Nat × Nat} {pc : Nat} {g : List Nat} {Sp : SpT} {S : SpS} {lv st : List Value} {h : AH} {L : List Item}  : go J Rt cap ((pc, .areturn, g, Sp) :: L) S lv st h = (pR1 st (fun x r => eSt r (Rt (some (.ref x)) S h))) := rfl
theorem g_return_ {J : Nat → SpS → List Value → List Value → AH → Prop} {Rt : Option Value → SpS → AH → Prop} {cap : Nat × Nat} {pc : Nat} {g : List Nat} {Sp : SpT} {S : SpS} {lv st : List Value} {h : AH} {L : List Item}  : go J Rt cap ((pc, .return_, g, Sp) :: L) S lv st h = (eSt st (Rt none S h)) := rfl
