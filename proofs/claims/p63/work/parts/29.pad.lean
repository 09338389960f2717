variable {nn : Nat}
/-! ===== the pads of a frame, step by step (as rows that aren't read by rfl: the kernel takes long over pad at 8 and more) ===== -/
theorem pd_0 (as : List Value) : pad 0 as = [] := by cases as <;> rfl
theorem pd_e (n : Nat) : pad (n + 1) [] = .null :: pad n [] := by cases n <;> rfl
theorem pd_r (n : Nat) (x : Addr) (r : List Value) : pad (n + 1) (.ref x :: r) = .ref x :: pad n r := by cases n <;> rfl
theorem pd_i (n : Nat) (x : Int32) (r : List Value) : pad (n + 1) (.int x :: r) = .int x :: pad n r := by cases n <;> rfl
theorem pd_l (n : Nat) (x : Int64) (r : List Value) : pad (n + 2) (.long x :: r) = .long x :: .null :: pad n r := by rfl
theorem sl_0 (a : Value) (r : List Value) (v : Value) : sL (a :: r) 0 v = v :: r := by cases a <;> rfl
theorem sl_1 (a : Value) (r : List Value) (v : Value) : sL (a :: r) 1 v = kilL a :: sL r 0 v := by cases a <;> rfl
theorem sl_s (a : Value) (r : List Value) (n : Nat) (v : Value) : sL (a :: r) (n + 2) v = a :: sL r (n + 1) v := by cases a <;> rfl
theorem sl2_0 (a b : Value) (r : List Value) (v : Value) : sL2 (a :: b :: r) 0 v = v :: .null :: r := by cases a <;> rfl
theorem sl2_1 (a b : Value) (r : List Value) (v : Value) : sL2 (a :: b :: r) 1 v = kilL a :: sL2 (b :: r) 0 v := by cases a <;> rfl
theorem sl2_s (a b : Value) (r : List Value) (n : Nat) (v : Value) : sL2 (a :: b :: r) (n + 2) v = a :: sL2 (b :: r) (n + 1) v := by cases a <;> rfl
theorem gl_0 (a : Value) (r : List Value) : gL (a :: r) 0 = a := by cases a <;> rfl
theorem gl_s (a : Value) (r : List Value) (n : Nat) : gL (a :: r) (n + 1) = gL r n := by cases a <;> rfl
