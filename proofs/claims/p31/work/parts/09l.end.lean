/-! the end of an obstacle -/
section FSE
variable {G : GT} {B : Nat → Nat} {th : Int32} {mc : Nat → Int32} {cp g : Nat → Nat} {f : Nat → Nat → Int32} {i j : Nat} {v : Int32}
theorem fS_i {k : Nat} : fS f k i v k i = v := by
  unfold fS
  rw [if_pos rfl]
  exact if_pos rfl
end FSE
