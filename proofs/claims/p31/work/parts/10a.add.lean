/-! ===== one more in the reference's lists ===== -/
theorem rowPut_fS {f : Nat → Nat → Int32} {k n : Nat} {v : Int32} (hn : n < rl k) : rowPut f k (nI n) v = fS f k n v := by
  have h2 := rl_lt k
  funext j
  unfold rowPut fS
  by_cases e : j = k
  · subst e
    rw [if_pos rfl, if_pos rfl, if_neg (nI_pos (by omega)), if_neg (nI_ge hn h2), nI_clamp (by omega)]
  · rw [if_neg e, if_neg e]
theorem fS_ne {f : Nat → Nat → Int32} {k n j : Nat} {v : Int32} (h : j ≠ k) : fS f k n v j = f j := by
  unfold fS; rw [if_neg h]
theorem fS_o {f : Nat → Nat → Int32} {k n j q : Nat} {v : Int32} (h : q ≠ n) : fS f k n v j q = f j q := by
  unfold fS
  by_cases e : j = k
  · subst e; rw [if_pos rfl]; exact if_neg h
  · rw [if_neg e]
theorem obAdd_fS {f : Nat → Nat → Int32} {g : Nat → Nat} {x1 x2 x3 x4 x5 : Int32} (h : g 1 < 12) : obAdd f g x1 x2 x3 x4 x5 = fS (fS (fS (fS (fS f 10 (g 1) x1) 11 (g 1) x2) 12 (g 1) x3) 13 (g 1) x4) 14 (g 1) x5 := by
  unfold obAdd
  rw [rowPut_fS (k := 10) h, rowPut_fS (k := 11) h, rowPut_fS (k := 12) h, rowPut_fS (k := 13) h, rowPut_fS (k := 14) h]
theorem obAdd_ne {f : Nat → Nat → Int32} {g : Nat → Nat} {x1 x2 x3 x4 x5 : Int32} {r : Nat} (hr : r < 10 ∨ 14 < r) : obAdd f g x1 x2 x3 x4 x5 r = f r := by
  unfold obAdd rowPut
  rw [if_neg (by omega), if_neg (by omega), if_neg (by omega), if_neg (by omega), if_neg (by omega)]
theorem obAdd_o {f : Nat → Nat → Int32} {g : Nat → Nat} {x1 x2 x3 x4 x5 : Int32} {r j : Nat} (h : g 1 < 12) (hj : j ≠ g 1) : obAdd f g x1 x2 x3 x4 x5 r j = f r j := by
  rw [obAdd_fS h, fS_o hj, fS_o hj, fS_o hj, fS_o hj, fS_o hj]
theorem obAdd_10 {f : Nat → Nat → Int32} {g : Nat → Nat} {x1 x2 x3 x4 x5 : Int32} (h : g 1 < 12) : obAdd f g x1 x2 x3 x4 x5 10 (g 1) = x1 := by
  rw [obAdd_fS h, fS_ne (by decide), fS_ne (by decide), fS_ne (by decide), fS_ne (by decide), fS_i]
theorem obAdd_11 {f : Nat → Nat → Int32} {g : Nat → Nat} {x1 x2 x3 x4 x5 : Int32} (h : g 1 < 12) : obAdd f g x1 x2 x3 x4 x5 11 (g 1) = x2 := by
  rw [obAdd_fS h, fS_ne (by decide), fS_ne (by decide), fS_ne (by decide), fS_i]
theorem obAdd_12 {f : Nat → Nat → Int32} {g : Nat → Nat} {x1 x2 x3 x4 x5 : Int32} (h : g 1 < 12) : obAdd f g x1 x2 x3 x4 x5 12 (g 1) = x3 := by
  rw [obAdd_fS h, fS_ne (by decide), fS_ne (by decide), fS_i]
theorem noAdd_fS {f : Nat → Nat → Int32} {g : Nat → Nat} {x1 x2 x3 x4 x5 : Int32} (h : g 5 < 16) : noAdd f g x1 x2 x3 x4 x5 = fS (fS (fS (fS (fS f 22 (g 5) x1) 23 (g 5) x2) 24 (g 5) x3) 25 (g 5) x4) 26 (g 5) x5 := by
  unfold noAdd
  rw [rowPut_fS (k := 22) h, rowPut_fS (k := 23) h, rowPut_fS (k := 24) h, rowPut_fS (k := 25) h, rowPut_fS (k := 26) h]
theorem noAdd_ne {f : Nat → Nat → Int32} {g : Nat → Nat} {x1 x2 x3 x4 x5 : Int32} {r : Nat} (hr : r < 22 ∨ 26 < r) : noAdd f g x1 x2 x3 x4 x5 r = f r := by
  unfold noAdd rowPut
  rw [if_neg (by omega), if_neg (by omega), if_neg (by omega), if_neg (by omega), if_neg (by omega)]
theorem noAdd_o {f : Nat → Nat → Int32} {g : Nat → Nat} {x1 x2 x3 x4 x5 : Int32} {r j : Nat} (h : g 5 < 16) (hj : j ≠ g 5) : noAdd f g x1 x2 x3 x4 x5 r j = f r j := by
  rw [noAdd_fS h, fS_o hj, fS_o hj, fS_o hj, fS_o hj, fS_o hj]
theorem noAdd_22 {f : Nat → Nat → Int32} {g : Nat → Nat} {x1 x2 x3 x4 x5 : Int32} (h : g 5 < 16) : noAdd f g x1 x2 x3 x4 x5 22 (g 5) = x1 := by
  rw [noAdd_fS h, fS_ne (by decide), fS_ne (by decide), fS_ne (by decide), fS_ne (by decide), fS_i]
theorem noAdd_23 {f : Nat → Nat → Int32} {g : Nat → Nat} {x1 x2 x3 x4 x5 : Int32} (h : g 5 < 16) : noAdd f g x1 x2 x3 x4 x5 23 (g 5) = x2 := by
  rw [noAdd_fS h, fS_ne (by decide), fS_ne (by decide), fS_ne (by decide), fS_i]
theorem noAdd_24 {f : Nat → Nat → Int32} {g : Nat → Nat} {x1 x2 x3 x4 x5 : Int32} (h : g 5 < 16) : noAdd f g x1 x2 x3 x4 x5 24 (g 5) = x3 := by
  rw [noAdd_fS h, fS_ne (by decide), fS_ne (by decide), fS_i]
theorem noAdd_25 {f : Nat → Nat → Int32} {g : Nat → Nat} {x1 x2 x3 x4 x5 : Int32} (h : g 5 < 16) : noAdd f g x1 x2 x3 x4 x5 25 (g 5) = x4 := by
  rw [noAdd_fS h, fS_ne (by decide), fS_i]
theorem noAdd_26 {f : Nat → Nat → Int32} {g : Nat → Nat} {x1 x2 x3 x4 x5 : Int32} (h : g 5 < 16) : noAdd f g x1 x2 x3 x4 x5 26 (g 5) = x5 := by
  rw [noAdd_fS h, fS_i]
