/-! ===== the pads of a frame, step by step (as rows that aren't read by rfl: the kernel takes long over pad at 8 and more) ===== -/
theorem pd_0 (as : List Value) : pad 0 as = [] := by cases as <;> rfl
theorem pd_e (n : Nat) : pad (n + 1) [] = .null :: pad n [] := by cases n <;> rfl
theorem pd_r (n : Nat) (x : Addr) (r : List Value) : pad (n + 1) (.ref x :: r) = .ref x :: pad n r := by cases n <;> rfl
theorem pd_i (n : Nat) (x : Int32) (r : List Value) : pad (n + 1) (.int x :: r) = .int x :: pad n r := by cases n <;> rfl
theorem pd_l (n : Nat) (x : Int64) (r : List Value) : pad (n + 2) (.long x :: r) = .long x :: .null :: pad n r := by rfl
