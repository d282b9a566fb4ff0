/-! ===== the law's wrappers: my library ===== -/
/-- which exception isn't which -/
def GN (U : State) : Prop := va_Nc xIAE xIOB U ∧ va_Nc xISE xIAE U ∧ va_Nc xISE xIOB U
theorem GN.moved {u U : State} (hvm : u.vm.Alike U.vm) (h : GN u) : GN U := ⟨va_Nc.moved hvm h.1, va_Nc.moved hvm h.2.1, va_Nc.moved hvm h.2.2⟩
theorem GN.warm {s U : State} (hW : s.WarmedH U.vm) (h : GN s) : GN U := h.moved hW.alike
