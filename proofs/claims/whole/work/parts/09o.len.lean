theorem nmJ8_newLength_cabcc : nmV yJ8_newLength_cabcc RJ8 3 := by decide +kernel

set_option maxHeartbeats 1000000 in
set_option maxRecDepth 100000 in
theorem c_J8_newLength_cabcc (l : Launch) (G : GT) (H : Heap) (o a b z : Nat) (hz : nI o + imax (nI a) (nI b) = nI z) (hz0 : 0 < z) (hz1 : z < 65536) : RdV l G H yJ8_newLength_cabcc wsJ8_newLength_cabcc { frames := 1, cells := 0, slots := 0, locals := 21 } [.int (nI o), .int (nI a), .int (nI b)] (some (.int (nI z))) := by
  refine rd_of (cc := cJ8_newLength_cabcc) (maxL := 4) (ret := (some .int)) (by decide) rfl (Nat.le_of_ble_eq_true rfl) ?_
  intro pZ eZ sZ mZ bZ meZ cZ ls S hr hlk hl hHs hG
  have S : CallFix pZ mZ cZ cJ8_newLength_cabcc 4 sZ _ wsJ8_newLength_cabcc RJ8 := S
  have hx := S.1
  have hb := S.2.1
  have hown := S.2.2.2.1
  have hts := S.2.2.2.2
  have hl : lv_has ls 4 [(0, .int (nI o)), (1, .int (nI a)), (2, .int (nI b))] := hl
  have w0 := hts (.constant RJ8 200 (2147483639)) (by decide +kernel)
  have m_max_194 : [.methodLink RJ8 194 Lib.Math.max.name, .static Lib.Math.max.name, .initialized "java/lang/Math", .code Lib.Math.max.name Lib.Math.max.code 2 (some .int)] ⊆ wsJ8_newLength_cabcc := by decide +kernel
  have hp : ¬ nI z ≤ 0 := Int32.not_le.mpr (nI_lt (a := 0) hz0 (by omega))
  have hq : ¬ 2147483639 < nI z := Int32.not_lt.mpr (nI_le (b := 2147483639) (by omega) (by decide))
  refine lv_iload_n hx hb dJ8_newLength_cabcc_0 rfl (lv_at hl 0 rfl) ?_
  refine lv_iload_n hx hb dJ8_newLength_cabcc_1 rfl (lv_at hl 1 rfl) ?_
  refine lv_iload_n hx hb dJ8_newLength_cabcc_2 rfl (lv_at hl 2 rfl) ?_
  refine rd_max S hl.1 m_max_194 ⟨Nat.le_of_ble_eq_true rfl, Nat.le_of_ble_eq_true rfl⟩ (Nat.le_of_ble_eq_true rfl) ⟨Nat.zero_le _, Nat.zero_le _⟩ dJ8_newLength_cabcc_3 ?_
  refine W.eq (g2 := F0 mZ 6 ls [.int (imax (nI a) (nI b)), .int (nI o)]) rfl ?_
  refine lv_iadd hx hb dJ8_newLength_cabcc_6 ?_
  refine W.eq (g2 := F0 mZ 7 ls [.int (nI z)]) (congrArg (fun q => F0 mZ 7 ls [Value.int q]) hz) ?_
  refine lv_istore_n (lv' := [(3, .int (nI z)), (0, .int (nI o)), (1, .int (nI a)), (2, .int (nI b))]) hx hb dJ8_newLength_cabcc_7 rfl hl (by decide) rfl (fun ls hl => ?_)
  refine lv_iconst (v := 0) hx hb dJ8_newLength_cabcc_8 (by decide) ?_
  refine lv_iload_n hx hb dJ8_newLength_cabcc_9 rfl (lv_at hl 0 rfl) ?_
  refine lv_icmp_ge (tgt := 21) hx hb dJ8_newLength_cabcc_10 (by decide) (fun c1 => ?_) (fun c1 => ?_)
  · first | exact absurd c1 hp | exact absurd hp c1 | exact absurd (Int32.not_lt.mp c1) (Int32.not_le.mpr hp) | exact absurd (Int32.not_lt.mpr c1) (by simp only [Int32.not_lt]; exact hp)
  · have d1 := Int32.not_le.mp c1
    refine lv_iload_n hx hb dJ8_newLength_cabcc_13 rfl (lv_at hl 0 rfl) ?_
    refine lv_ldc (own := RJ8) (v := 2147483639) hx hb hown w0 dJ8_newLength_cabcc_14 ?_
    refine lv_icmp_gt (tgt := 21) hx hb dJ8_newLength_cabcc_16 (by decide) (fun c2 => ?_) (fun c2 => ?_)
    · first | exact absurd c2 hq | exact absurd hq c2 | exact absurd (Int32.not_lt.mp c2) (Int32.not_le.mpr hq) | exact absurd (Int32.not_lt.mpr c2) (by simp only [Int32.not_lt]; exact hq)
    · have d2 := Int32.not_lt.mp c2
      refine lv_iload_n hx hb dJ8_newLength_cabcc_19 rfl (lv_at hl 0 rfl) ?_
      exact rd_iret S hr hlk dJ8_newLength_cabcc_20 (congrArg (fun z => some (Value.int z)) (by first | rfl | (simp only [hp, hq, c1, d1, c2, d2, ne_eq, not_true_eq_false, not_false_eq_true, and_true, true_and, and_false, false_and, or_true, true_or, or_false, false_or, and_self, or_self, decide_eq_true_eq, ↓reduceIte]; done) | (simp [hp, hq, c1, d1, c2, d2]; done) | (simp only [hp, hq, c1, d1, c2, d2, ne_eq, not_true_eq_false, not_false_eq_true, and_true, true_and, and_false, false_and, or_true, true_or, or_false, false_or, and_self, or_self, decide_eq_true_eq, ↓reduceIte])))

