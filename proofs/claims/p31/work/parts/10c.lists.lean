/-! constructors of a list, and of a procedure; add(e) on the reference's lists -/
abbrev DO (o n : Nat) : Nat → Prop := fun q => q = o ∨ n ≤ q
theorem dp_o {G : GT} {o n : Nat} (ho : G.2.2.1 ≤ o) (hz : G.2.2.1 ≤ n) : DP G (DO o n) n := ⟨fun q h => Or.inr h, fun q h => h.elim (fun e => by rw [e]; exact ho) (Nat.le_trans hz)⟩
/-! the elements' classes -/
