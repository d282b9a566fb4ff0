/-! what the law's start says: classes, strings, statics -/
section QEN
variable {args : Array Value} {s : State}
theorem en_over (h : (Cond.arrayOver (.array .int)).before args s = true) : ∃ c, ArrOfT s c (.array .int) ∧ va_RA s c (.array .int) := by
  obtain ⟨comp, c, k, h1, h2, h3, h4, h5⟩ := Jvm.Stand.arrayOver_specB (t := .int) h
  exact ⟨c, fun N z => ⟨(fun k h => by cases h), k, h3, comp, h4⟩, h5⟩
theorem en_overO (h : (Cond.arrayOver (.object "java/lang/Object")).before args s = true) : ∃ c, (ArrOfT s c (.object "java/lang/Object") ∧ va_RA s c (.object "java/lang/Object")) ∧ s.vm.findClass "[Ljava/lang/Object;" = some c := by
  obtain ⟨comp, c, k, h1, h2, h3, h4, h5⟩ := Cond.arrayOver_spec h
  have e : "[" ++ (FieldType.object "java/lang/Object").toString = "[Ljava/lang/Object;" := by decide +kernel
  exact ⟨c, ⟨fun N z => ⟨(fun k h => by cases h), k, h3, comp, h4⟩, k, comp, h3, h4, h1, h5⟩, by rw [← e]; exact h5⟩
theorem en_I (h : (Cond.arrayClass .int).before args s = true) : ∃ c, ArrOfT s c .int ∧ va_RA s c .int := by
  obtain ⟨c, k, comp, h1, h2, h3⟩ := Cond.arrayClass_spec h
  exact ⟨c, fun N z => ⟨(fun k h => by cases h), k, h2, comp, h3⟩, h1⟩
theorem en_L (h : (Cond.arrayClass .long).before args s = true) : ∃ c, ArrOfT s c .long ∧ va_RA s c .long := by
  obtain ⟨c, k, comp, h1, h2, h3⟩ := Cond.arrayClass_spec h
  exact ⟨c, fun N z => ⟨(fun k h => by cases h), k, h2, comp, h3⟩, h1⟩
theorem en_D (h : (Cond.arrayClass .double).before args s = true) : ∃ c, ArrOfT s c .double ∧ va_RA s c .double := by
  obtain ⟨c, k, comp, h1, h2, h3⟩ := Cond.arrayClass_spec h
  exact ⟨c, fun N z => ⟨(fun k h => by cases h), k, h2, comp, h3⟩, h1⟩
theorem en_N (hgv : (Jvm.Cond.and given_1 narrow_1).before args s = true) : GN s := by
  have hs := flat_of_before _ hgv
  exact ⟨va_Nc.of (hs _ (by decide +kernel)), va_Nc.of (hs _ (by decide +kernel)), va_Nc.of (hs _ (by decide +kernel))⟩
theorem en_str {k : Nat} {tx : String} (h1 : (Cond.stringRef RX7 k tx).before args s = true) (h2 : (Cond.exactly (.string RX7 k) "java/lang/String").before args s = true) : ∃ sa, vk_R RX7 k tx sa s := by
  obtain ⟨a, c, cell, kk, h3, -⟩ := Cond.exactly_spec h2
  exact ⟨a, vk_R.of h1 h3⟩
theorem en_strs (hts : ∀ w ∈ lw_tbl, w.before args s = true) (hgv : (Jvm.Cond.and given_1 narrow_1).before args s = true) : ∀ q ∈ gk_strs, ∃ sa, vk_R RX7 q.1 q.2 sa s := by
  have hs := flat_of_before _ hgv
  have m : ∀ q ∈ gk_strs, Cond.stringRef RX7 q.1 q.2 ∈ lw_tbl ∧ Cond.exactly (.string RX7 q.1) "java/lang/String" ∈ flatC (Jvm.Cond.and given_1 narrow_1) := by decide +kernel
  exact fun q hq => en_str (hts _ (m q hq).1) (hs _ (m q hq).2)
theorem en_tab (hts : ∀ w ∈ lw_tbl, w.before args s = true) : ∀ w ∈ tables_1, gk_ok w = true → va_Nw w s := by
  intro w hw ho
  have h := hts w (List.mem_append_right _ hw)
  cases w <;> first | exact va_Nw.of rfl h | (exfalso; revert ho; simp [gk_ok])
theorem en_K (hts : ∀ w ∈ lw_tbl, w.before args s = true) : ∃ (D : va_G) (cA : Nat → ClassId), va_K D vwCl [(cA 0, .int), (cA 1, .object "java/lang/Object"), (cA 2, .array .int), (cA 3, .long), (cA 4, .double)] s ∧ s.vm.findClass "[Ljava/lang/Object;" = some (cA 1) := by
  obtain ⟨c0, i0, k0⟩ := u_known (C := RJx4a65c) (T := TJx4a65c) (N := 3) (n := 3) hts wl_in_wsJx4a65c0 (hts _ (by decide +kernel))
  obtain ⟨c1, i1, k1⟩ := u_known (C := RX0) (T := TX0) (N := 2) (n := 2) hts wl_in_wsX00 (hts _ (by decide +kernel))
  obtain ⟨c2, i2, k2⟩ := u_known (C := RX1) (T := TX1) (N := 4) (n := 4) hts wl_in_wsX10 (hts _ (by decide +kernel))
  obtain ⟨c3, i3, k3⟩ := u_known (C := RX2) (T := TX2) (N := 2) (n := 2) hts wl_in_wsX20 (hts _ (by decide +kernel))
  obtain ⟨c4, i4, k4⟩ := u_known (C := RX3) (T := TX3) (N := 7) (n := 7) hts wl_in_wsX30 (hts _ (by decide +kernel))
  obtain ⟨c5, i5, k5⟩ := u_known (C := RX4) (T := TX4) (N := 6) (n := 6) hts wl_in_wsX40 (hts _ (by decide +kernel))
  obtain ⟨c6, i6, k6⟩ := u_known (C := RX5) (T := TX5) (N := 3) (n := 3) hts wl_in_wsX50 (hts _ (by decide +kernel))
  obtain ⟨c7, i7, k7⟩ := u_known (C := RX6) (T := TX6) (N := 1) (n := 1) hts wl_in_wsX60 (hts _ (by decide +kernel))
  obtain ⟨c8, i8, k8⟩ := u_known (C := RX7) (T := TX7) (N := 8) (n := 8) hts wl_in_wsX70 (hts _ (by decide +kernel))
  obtain ⟨c9, i9, k9⟩ := u_known (C := RX8) (T := TX8) (N := 5) (n := 5) hts wl_in_wsX80 (hts _ (by decide +kernel))
  obtain ⟨c10, i10, k10⟩ := u_known (C := RX9) (T := TX9) (N := 5) (n := 5) hts wl_in_wsX90 (hts _ (by decide +kernel))
  obtain ⟨c11, i11, k11⟩ := u_known (C := RX10) (T := TX10) (N := 3) (n := 3) hts wl_in_wsX100 (hts _ (by decide +kernel))
  obtain ⟨c12, i12, k12⟩ := u_known (C := RX11) (T := TX11) (N := 11) (n := 11) hts wl_in_wsX110 (hts _ (by decide +kernel))
  obtain ⟨a0, b0⟩ := en_I (hts (.arrayClass .int) (by decide +kernel))
  obtain ⟨a1, b1, e1⟩ := en_overO (hts (.arrayOver (.object "java/lang/Object")) (by decide +kernel))
  obtain ⟨a2, b2⟩ := en_over (hts (.arrayOver (.array .int)) (by decide +kernel))
  obtain ⟨a3, b3⟩ := en_L (hts (.arrayClass .long) (by decide +kernel))
  obtain ⟨a4, b4⟩ := en_D (hts (.arrayClass .double) (by decide +kernel))
  refine ⟨(fun k => match k with | 0 => c0 | 1 => c1 | 2 => c2 | 3 => c3 | 4 => c4 | 5 => c5 | 6 => c6 | 7 => c7 | 8 => c8 | 9 => c9 | 10 => c10 | 11 => c11 | _ => c12, fun k => match k with | 0 => i0 | 1 => i1 | 2 => i2 | 3 => i3 | 4 => i4 | 5 => i5 | 6 => i6 | 7 => i7 | 8 => i8 | 9 => i9 | 10 => i10 | 11 => i11 | _ => i12), fun k => match k with | 0 => a0 | 1 => a1 | 2 => a2 | 3 => a3 | _ => a4, ⟨fun c q h => ?_, fun k q h => ?_⟩, e1⟩
  · match c, h with
    | 0, h => cases h; exact k0
    | 1, h => cases h; exact k1
    | 2, h => cases h; exact k2
    | 3, h => cases h; exact k3
    | 4, h => cases h; exact k4
    | 5, h => cases h; exact k5
    | 6, h => cases h; exact k6
    | 7, h => cases h; exact k7
    | 8, h => cases h; exact k8
    | 9, h => cases h; exact k9
    | 10, h => cases h; exact k10
    | 11, h => cases h; exact k11
    | 12, h => cases h; exact k12
    | c + 13, h => simp at h
  · match k, h with
    | 0, h => cases h; exact b0
    | 1, h => cases h; exact b1
    | 2, h => cases h; exact b2
    | 3, h => cases h; exact b3
    | 4, h => cases h; exact b4
    | k + 5, h => simp at h
theorem en_X (hts : ∀ w ∈ lw_tbl, w.before args s = true) : GX s := ⟨hts (.arrayOver (.array .int)) (by decide +kernel), va_AO.of (hts (.arrayOver (.object "java/lang/Object")) (by decide +kernel))⟩
theorem en_Q (hts : ∀ w ∈ lw_tbl, w.before args s = true) (hgv : (Jvm.Cond.and given_1 narrow_1).before args s = true) : vx_Zq Bundle.tN "UNASSIGNED_STACK" Bundle.steD (fun q => s.heap.size ≤ q) s s.heap ∧ vx_Zq Bundle.tN "SUPPRESSED_SENTINEL" Bundle.listD (fun q => s.heap.size ≤ q) s s.heap := by
  have hs := flat_of_before _ hgv
  exact ⟨vx_Zqof (hts _ (by decide +kernel)) (hts _ (by decide +kernel)) (hs _ (by decide +kernel)) (fun a ha => Nat.not_le.mpr ha), vx_Zqof (hts _ (by decide +kernel)) (hts _ (by decide +kernel)) (hs _ (by decide +kernel)) (fun a ha => Nat.not_le.mpr ha)⟩
theorem en_M (hgv : (Jvm.Cond.and given_1 narrow_1).before args s = true) : ∃ mi, va_Mi "[Ljava/lang/Object;" mi s := va_Mi.of (flat_of_before _ hgv (.isRef (.mirror "[Ljava/lang/Object;")) (by decide +kernel))
end QEN
