/-! amendments, in the reference -/
theorem arrV_congr {c : ClassId} {n : Nat} {r r2 : Nat → Value} (h : ∀ j, j < n → r j = r2 j) : arrV c n r = arrV c n r2 := by
  have e : (fun j : Fin n => r j.val) = fun j : Fin n => r2 j.val := funext fun j => h j.val j.isLt
  unfold arrV
  rw [e]
/-- an array of ints by its first n numbers alone -/
theorem va_cg {D : va_G} {cl : List vw_C} {H : Heap} {a n : Nat} {c : ClassId} {r r2 : Nat → Int32} (h : va_at D cl (a, .inl (c, n, .inl r)) H) (hr : ∀ j, j < n → r j = r2 j) : va_at D cl (a, .inl (c, n, .inl r2)) H := by
  have h1 : H[a]? = some (vp_cell c (n, .inl r)) := h
  show H[a]? = some (vp_cell c (n, .inl r2))
  rw [h1, vp_cell_i, vp_cell_i, arrV_congr fun j hj => congrArg Value.int (hr j hj)]
