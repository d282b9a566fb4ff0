/-! ===== class and reference agree: answers ===== -/
section EQA
variable {f : Nat → Nat → Int32} {g : Nat → Nat} {i : Nat} {d w : Int32}
theorem uSet_eq (h : LI f g) : uSet f g = mBa f g := fl_cg fun j hj z => by rw [isUn_eq h hj]
theorem uOn_eq (h : LI f g) (hi : i < g 3) : ∀ n k, uOn f g (nI i) n k = mUL f g i n k
  | 0, _ => rfl
  | n + 1, k => by
    have e1 : uOn f g (nI i) (n + 1) k = if isUn f g (nI i) (nI (g 0 + k)) = true then nI (g 0 + k) else uOn f g (nI i) n (k + 1) := rfl
    have e2 : mUL f g i (n + 1) k = if mUn f g i (nI (g 0 + k)) = true then nI (g 0 + k) else mUL f g i n (k + 1) := rfl
    rw [e1, e2, isUn_eq h hi, uOn_eq h hi n]
theorem li_now (h : LI f g) {n : Nat} (h1 : g 0 ≤ n) (hn : n ≤ 399) : LI f (gset g 0 n) := by
  obtain ⟨⟨a0, a1, a2, a3, a4, a5⟩, b1, b2, b3, b4, b5, c1, c2, c3⟩ := h
  refine ⟨⟨hn, a1, a2, a3, a4, ?_⟩, b1, b2, b3, b4, b5, fun j hj h3 => ⟨Int32.le_trans (c1 j hj h3).1 (nI_le (by show g 0 ≤ n; omega) (by show n < 2 ^ 31; omega)), (c1 j hj h3).2⟩, c2, c3⟩
  show g 7 ≤ 63 * n
  omega
/-- how many bits are set in a set of at most four -/
def mk4 (n : Nat) (b : Nat → Bool) : Int32 := fl n (fun j s => if b j = true then s ||| (1 <<< (nI j &&& 31)) else s) 0
def b4 (x y z w : Bool) (j : Nat) : Bool := if j = 0 then x else if j = 1 then y else if j = 2 then z else w
end EQA
