/-! public methods that change rows -/
def fS (f : Nat → Nat → Int32) (fr i : Nat) (v : Int32) : Nat → Nat → Int32 := fun j => if j = fr then upd (f fr) i v else f j
