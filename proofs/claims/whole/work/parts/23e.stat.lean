/-! the statics at the law's start -/
section QES
variable {args : Array Value} {s : State}
theorem en_lf {l : Launch} (h : l.flags = flags0) : l.stackTraces = false := by
  unfold Launch.stackTraces
  rw [h]
  decide +kernel
theorem en_S (hts : ∀ w ∈ lw_tbl, w.before args s = true) (hgv : (Jvm.Cond.and given_1 narrow_1).before args s = true) {c1 : ClassId} (hO : s.vm.findClass "[Ljava/lang/Object;" = some c1) :
    ∃ t : Nat → Nat, (∀ k, k < 3 → t k < s.heap.size) ∧
      (va_Z RJx4a65c "DEFAULTCAPACITY_EMPTY_ELEMENTDATA" "[Ljava/lang/Object;" (.ref (t 0)) (fun q => s.heap.size ≤ q) s s.heap ∧ va_Z RX11 "BASES" "[I" (.ref (t 1)) (fun q => s.heap.size ≤ q) s s.heap ∧ va_Z RX11 "MARGINS" "[I" (.ref (t 2)) (fun q => s.heap.size ≤ q) s s.heap) ∧
      (∃ cell : Cell, s.heap[t 0]? = some cell ∧ cell.cls = c1 ∧ (∀ k, cell.vm ≠ .statics k) ∧ cell.slots.size.toInt32 = nI 0) ∧ va_T .int (t 1) 3 (fun j => .int (bases j)) (fun q => s.heap.size ≤ q) s s.heap ∧ va_T .int (t 2) 3 (fun j => .int (margins j)) (fun q => s.heap.size ≤ q) s s.heap := by
  have hs := flat_of_before _ hgv
  have hA : ∀ a : Nat, a < s.heap.size → ¬ (fun q : Nat => s.heap.size ≤ q) a := fun a ha => Nat.not_le.mpr ha
  obtain ⟨t0, e0, cell, g1, g2, g3, g4, g5, g6, g7⟩ := va_Tof (tm := .static RJx4a65c "DEFAULTCAPACITY_EMPTY_ELEMENTDATA" "[Ljava/lang/Object;") (ty := .object "java/lang/Object") (N := 0) (f := fun _ => .null) (A := fun q => s.heap.size ≤ q) (by decide) (hs (.arrayOf (.static RJx4a65c "DEFAULTCAPACITY_EMPTY_ELEMENTDATA" "[Ljava/lang/Object;") (.object "java/lang/Object")) (by decide +kernel)) (va_eqt (z := 0) (hs (.eq (.length (.static RJx4a65c "DEFAULTCAPACITY_EMPTY_ELEMENTDATA" "[Ljava/lang/Object;")) (.int 0)) (by decide +kernel))) (fun j hj => absurd hj (Nat.not_lt_zero j)) hA
  obtain ⟨a, c, cell2, k, f1, f2, f3, f4, f5, f6, -⟩ := Cond.exactly_spec (hs (.exactly (.static RJx4a65c "DEFAULTCAPACITY_EMPTY_ELEMENTDATA" "[Ljava/lang/Object;") "[Ljava/lang/Object;") (by decide +kernel))
  have ea : t0 = a := by
    have h9 := e0.symm.trans f1
    injection h9 with h9
    injection h9
  subst ea
  have ec : cell = cell2 := Option.some.inj (g1.symm.trans f3)
  subst ec
  have ecc : c = c1 := Option.some.inj (f2.symm.trans hO)
  subst ecc
  obtain ⟨t1, e1, T1⟩ := va_Tof (tm := .static RX11 "BASES" "[I") (ty := .int) (N := 3) (f := fun j => .int (bases j)) (A := fun q => s.heap.size ≤ q) (by decide) (hs (.arrayOf (.static RX11 "BASES" "[I") .int) (by decide +kernel)) (va_eqt (z := 3) (hs (.eq (.length (.static RX11 "BASES" "[I")) (.int 3)) (by decide +kernel))) (fun j hj => by
    have h9 : j = 0 ∨ j = 1 ∨ j = 2 := by omega
    rcases h9 with rfl | rfl | rfl
    · exact va_eqt (z := 200) (hs (.eq (.elem (.static RX11 "BASES" "[I") (.int 0)) (.int 200)) (by decide +kernel))
    · exact va_eqt (z := 250) (hs (.eq (.elem (.static RX11 "BASES" "[I") (.int 1)) (.int 250)) (by decide +kernel))
    · exact va_eqt (z := 300) (hs (.eq (.elem (.static RX11 "BASES" "[I") (.int 2)) (.int 300)) (by decide +kernel))) hA
  obtain ⟨t2, e2, T2⟩ := va_Tof (tm := .static RX11 "MARGINS" "[I") (ty := .int) (N := 3) (f := fun j => .int (margins j)) (A := fun q => s.heap.size ≤ q) (by decide) (hs (.arrayOf (.static RX11 "MARGINS" "[I") .int) (by decide +kernel)) (va_eqt (z := 3) (hs (.eq (.length (.static RX11 "MARGINS" "[I")) (.int 3)) (by decide +kernel))) (fun j hj => by
    have h9 : j = 0 ∨ j = 1 ∨ j = 2 := by omega
    rcases h9 with rfl | rfl | rfl
    · exact va_eqt (z := 30) (hs (.eq (.elem (.static RX11 "MARGINS" "[I") (.int 0)) (.int 30)) (by decide +kernel))
    · exact va_eqt (z := 75) (hs (.eq (.elem (.static RX11 "MARGINS" "[I") (.int 1)) (.int 75)) (by decide +kernel))
    · exact va_eqt (z := 90) (hs (.eq (.elem (.static RX11 "MARGINS" "[I") (.int 2)) (.int 90)) (by decide +kernel))) hA
  have z0 := va_Zof (A := fun q => s.heap.size ≤ q) (hts (.laysStatic RJx4a65c "DEFAULTCAPACITY_EMPTY_ELEMENTDATA" "[Ljava/lang/Object;") (by decide +kernel)) (hts (.initialized RJx4a65c) (by decide +kernel)) e0 hA
  have z1 := va_Zof (A := fun q => s.heap.size ≤ q) (hts (.laysStatic RX11 "BASES" "[I") (by decide +kernel)) (hts (.initialized RX11) (by decide +kernel)) e1 hA
  have z2 := va_Zof (A := fun q => s.heap.size ≤ q) (hts (.laysStatic RX11 "MARGINS" "[I") (by decide +kernel)) (hts (.initialized RX11) (by decide +kernel)) e2 hA
  refine ⟨fun k => match k with | 0 => t0 | 1 => t1 | _ => t2, fun k hk => ?_, ⟨z0, z1, z2⟩, ⟨cell, g1, f6, g2.1, g5⟩, T1, T2⟩
  have h9 : k = 0 ∨ k = 1 ∨ k = 2 := by omega
  rcases h9 with rfl | rfl | rfl
  · exact Nat.not_le.mp g7
  · exact Nat.not_le.mp T1.out
  · exact Nat.not_le.mp T2.out
theorem en_G (hts : ∀ w ∈ lw_tbl, w.before args s = true) (hgv : (Jvm.Cond.and given_1 narrow_1).before args s = true) : ∃ G : GT, G.2.2.1 = s.heap.size ∧ GK G s.heap s := by
  obtain ⟨D, cA, hK, hO⟩ := en_K hts
  obtain ⟨mi, hMi⟩ := en_M hgv
  obtain ⟨t, h1, h2, h3, h4, h5⟩ := en_S hts hgv hO
  obtain ⟨q1, q2⟩ := en_Q hts hgv
  refine ⟨(D, cA, s.heap.size, fun k => if k < 3 then t k else mi), rfl, ⟨hK, en_tab hts, en_strs hts hgv, hMi⟩, q1, q2, ⟨fun k hk => ?_, h2, h3, h4, h5⟩⟩
  show (if k < 3 then t k else mi) < s.heap.size
  rw [if_pos hk]
  exact h1 k hk
end QES
