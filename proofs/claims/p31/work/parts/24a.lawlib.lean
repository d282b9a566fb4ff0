/-! the law: what holds at its loop's head, and rows for its calls -/
theorem lcmp_self (x : Int64) : lg_cmp x x = 0 := by
  unfold lg_cmp
  simp
theorem A0_ge {z k : Nat} : z ≤ A0 z k := Nat.le_add_right _ _
