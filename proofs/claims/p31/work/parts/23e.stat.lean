/-! the statics at the law's start -/
section QES
variable {args : Array Value} {s : State}
theorem en_lf {l : Launch} (h : l.flags = flags0) : l.stackTraces = false := by
  unfold Launch.stackTraces
  rw [h]
  decide +kernel
end QES
