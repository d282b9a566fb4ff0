/-! ===== the reference's heap, and rows for it ===== -/
/-- the amendments of a procedure, by their numbers -/
def amL (f : Nat → Nat → Int32) (i : Nat) (n : Nat) : List Nat := (List.range n).filter (fun j => f 19 j = nI i)
