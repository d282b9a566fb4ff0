/-! .. and the other asking ones -/
def mUL (f : Nat → Nat → Int32) (g : Nat → Nat) (i : Nat) : Nat → Nat → Int32
  | 0, _ => -1
  | n + 1, k => if mUn f g i (nI (g 0 + k)) = true then nI (g 0 + k) else mUL f g i n (k + 1)
