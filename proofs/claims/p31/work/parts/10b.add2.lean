/-! ===== one procedure more ===== -/
theorem prAdd_fS {f : Nat → Nat → Int32} {g : Nat → Nat} {x1 x2 : Int32} (h : g 3 < 4) : prAdd f g x1 x2 = fS (fS f 17 (g 3) x1) 18 (g 3) x2 := by
  unfold prAdd
  rw [rowPut_fS (k := 17) h, rowPut_fS (k := 18) h]
theorem prAdd_ne {f : Nat → Nat → Int32} {g : Nat → Nat} {x1 x2 : Int32} {r : Nat} (hr : r < 17 ∨ 18 < r) : prAdd f g x1 x2 r = f r := by
  unfold prAdd rowPut
  rw [if_neg (by omega), if_neg (by omega)]
theorem prAdd_o {f : Nat → Nat → Int32} {g : Nat → Nat} {x1 x2 : Int32} {r j : Nat} (h : g 3 < 4) (hj : j ≠ g 3) : prAdd f g x1 x2 r j = f r j := by
  rw [prAdd_fS h, fS_o hj, fS_o hj]
theorem prAdd_17 {f : Nat → Nat → Int32} {g : Nat → Nat} {x1 x2 : Int32} (h : g 3 < 4) : prAdd f g x1 x2 17 (g 3) = x1 := by
  rw [prAdd_fS h, fS_ne (by decide), fS_i]
theorem prAdd_18 {f : Nat → Nat → Int32} {g : Nat → Nat} {x1 x2 : Int32} (h : g 3 < 4) : prAdd f g x1 x2 18 (g 3) = x2 := by
  rw [prAdd_fS h, fS_i]
/-! ===== one amendment more ===== -/
theorem amAdd_fS {f : Nat → Nat → Int32} {g : Nat → Nat} {x1 x2 x3 : Int32} (h : g 4 < 20) : amAdd f g x1 x2 x3 = fS (fS (fS f 19 (g 4) x1) 20 (g 4) x2) 21 (g 4) x3 := by
  unfold amAdd
  rw [rowPut_fS (k := 19) h, rowPut_fS (k := 20) h, rowPut_fS (k := 21) h]
theorem amAdd_ne {f : Nat → Nat → Int32} {g : Nat → Nat} {x1 x2 x3 : Int32} {r : Nat} (hr : r < 19 ∨ 21 < r) : amAdd f g x1 x2 x3 r = f r := by
  unfold amAdd rowPut
  rw [if_neg (by omega), if_neg (by omega), if_neg (by omega)]
theorem amAdd_o {f : Nat → Nat → Int32} {g : Nat → Nat} {x1 x2 x3 : Int32} {r j : Nat} (h : g 4 < 20) (hj : j ≠ g 4) : amAdd f g x1 x2 x3 r j = f r j := by
  rw [amAdd_fS h, fS_o hj, fS_o hj, fS_o hj]
theorem amAdd_19 {f : Nat → Nat → Int32} {g : Nat → Nat} {x1 x2 x3 : Int32} (h : g 4 < 20) : amAdd f g x1 x2 x3 19 (g 4) = x1 := by
  rw [amAdd_fS h, fS_ne (by decide), fS_ne (by decide), fS_i]
theorem amAdd_20 {f : Nat → Nat → Int32} {g : Nat → Nat} {x1 x2 x3 : Int32} (h : g 4 < 20) : amAdd f g x1 x2 x3 20 (g 4) = x2 := by
  rw [amAdd_fS h, fS_ne (by decide), fS_i]
theorem amAdd_21 {f : Nat → Nat → Int32} {g : Nat → Nat} {x1 x2 x3 : Int32} (h : g 4 < 20) : amAdd f g x1 x2 x3 21 (g 4) = x3 := by
  rw [amAdd_fS h, fS_i]
theorem amL_s {f f' : Nat → Nat → Int32} {n : Nat} (h : ∀ j, j < n → f' 19 j = f 19 j) (i : Nat) : amL f' i (n + 1) = amL f i n ++ (if f' 19 n = nI i then [n] else []) := by
  unfold amL
  rw [List.range_succ, List.filter_append]
  congr 1
  · refine List.filter_congr fun j hj => ?_
    rw [h j (List.mem_range.mp hj)]
  · by_cases e : f' 19 n = nI i
    · rw [if_pos e]; simp [e]
    · rw [if_neg e]; simp [e]
