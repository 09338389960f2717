variable {nn : Nat}
/-! ===== Opinions ===== -/
abbrev bitP (x t : Int32) : Prop := (x >>> (t &&& 31)) &&& 1 = 1
def agO (there not : Nat → Int32) (x : Int32) : Int32 := forN 8 (fun t a => a + if bitP x (nI t) then not t else there t) 0
def leastO (ag : Int32 → Int32) : Int32 × Int32 := forN 255 (fun j p => if ag (nI (j + 1)) < p.2 then (nI (j + 1), ag (nI (j + 1))) else p) (0, ag 0)
def withinO (ag : Int32 → Int32) (k : Int32) : Int32 := forN 256 (fun i a => if ¬ k < ag (nI i) then a + 1 else a) 0
def fitWithO (ag : Int32 → Int32) (t : Int32) : Int32 := forN 256 (fun i a => if bitP (nI i) t ∧ ag (nI i) = ag (leastO ag).1 then a + 1 else a) 0
theorem lp256F {i : Nat} (hi : i < 256) : ((256 : Int32) ≤ nI i) = False := lpF (n := 256) hi (by omega)
theorem lp256T : ((256 : Int32) ≤ nI 256) = True := by decide