theorem nmX6_at : nmV yX6_at RX6 1 := by decide +kernel
set_option maxHeartbeats 4000000 in
set_option maxRecDepth 100000 in
theorem c_X6_at (l : Launch) (G : GT) (H : Heap) (h a n : Nat) (f : Nat → Int32) (hn : n < 2 ^ 31) (h1 : va_at G.1 vwCl (h, .inr (7, [.ref a])) H) (h2 : va_at G.1 vwCl (a, .inl (G.2.1 0, n, .inl f)) H) (i : Int32) : RdV l G H yX6_at wsX6_at { frames := 0, cells := 0, slots := 0, locals := 0 } [.ref h, .int i] (some (.int (rowAt n f i))) := by
  refine rd_of (cc := cX6_at) (maxL := 2) (ret := (some .int)) (by decide) rfl (Nat.le_of_ble_eq_true rfl) ?_
  intro pZ eZ sZ mZ bZ meZ cZ ls S hr hlk hl hH hG
  have S : CallFix pZ mZ cZ cX6_at 2 sZ _ wsX6_at RX6 := S
  have hx := S.1
  have hb := S.2.1
  have hown := S.2.2.2.1
  have hts := S.2.2.2.2
  have hl : lv_has ls 2 [(0, .ref h), (1, .int i)] := hl
  have w0 := hts (.fieldLink RX6 9 "MinimaRoom$Row" "cells" "[I") (by decide +kernel)
  have iX6 : ∀ w ∈ u_ws RX6 TX6 1, w ∈ wsX6_at := by decide +kernel
  refine lv_iload_n hx hb dX6_at_0 rfl (lv_at hl 1 rfl) ?_
  refine lv_if_lt (tgt := 22) hx hb dX6_at_1 (by decide) (fun c1 => ?_) (fun c1 => ?_)
  · have d1 := Int32.not_le.mpr c1
    refine lv_iconst (v := (-1)) hx hb dX6_at_22 (by decide) ?_
    exact rd_iret S hr hlk dX6_at_23 (congrArg (fun z => some (Value.int z)) (by first | rfl | (simp only [rowAt, c1, d1, ne_eq, not_true_eq_false, not_false_eq_true, and_true, true_and, and_false, false_and, or_true, true_or, or_false, false_or, and_self, or_self, decide_eq_true_eq, ↓reduceIte]; done) | (simp [rowAt, c1, d1]; done) | (simp only [rowAt, c1, d1, ne_eq, not_true_eq_false, not_false_eq_true, and_true, true_and, and_false, false_and, or_true, true_or, or_false, false_or, and_self, or_self, decide_eq_true_eq, ↓reduceIte])))
  · have d1 := Int32.not_lt.mp c1
    refine lv_iload_n hx hb dX6_at_4 rfl (lv_at hl 1 rfl) ?_
    refine lv_aload_n hx hb dX6_at_5 rfl (lv_at hl 0 rfl) ?_
    refine rd_get (own := RX6) (x := .ref a) S hG.1 iX6 h1 0 rfl (by decide) w0 rfl dX6_at_6 ?_
    refine rd_alen S hG.1 h2 dX6_at_9 ?_
    refine lv_icmp_ge (tgt := 22) hx hb dX6_at_10 (by decide) (fun c2 => ?_) (fun c2 => ?_)
    · have d2 := Int32.not_lt.mpr c2
      refine lv_iconst (v := (-1)) hx hb dX6_at_22 (by decide) ?_
      exact rd_iret S hr hlk dX6_at_23 (congrArg (fun z => some (Value.int z)) (by first | rfl | (simp only [rowAt, c1, d1, c2, d2, ne_eq, not_true_eq_false, not_false_eq_true, and_true, true_and, and_false, false_and, or_true, true_or, or_false, false_or, and_self, or_self, decide_eq_true_eq, ↓reduceIte]; done) | (simp [rowAt, c1, d1, c2, d2]; done) | (simp only [rowAt, c1, d1, c2, d2, ne_eq, not_true_eq_false, not_false_eq_true, and_true, true_and, and_false, false_and, or_true, true_or, or_false, false_or, and_self, or_self, decide_eq_true_eq, ↓reduceIte])))
    · have d2 := Int32.not_le.mp c2
      refine lv_aload_n hx hb dX6_at_13 rfl (lv_at hl 0 rfl) ?_
      refine rd_get (own := RX6) (x := .ref a) S hG.1 iX6 h1 0 rfl (by decide) w0 rfl dX6_at_14 ?_
      refine lv_iload_n hx hb dX6_at_17 rfl (lv_at hl 1 rfl) ?_
      refine rd_iald S hG.1 h2 (vp_of (by assumption) (by assumption) hn) dX6_at_18 ?_
      refine lv_goto (tgt := 23) hx hb dX6_at_19 (by decide) ?_
      exact rd_iret S hr hlk dX6_at_23 (congrArg (fun z => some (Value.int z)) (by first | rfl | (simp only [rowAt, c1, d1, c2, d2, ne_eq, not_true_eq_false, not_false_eq_true, and_true, true_and, and_false, false_and, or_true, true_or, or_false, false_or, and_self, or_self, decide_eq_true_eq, ↓reduceIte]; done) | (simp [rowAt, c1, d1, c2, d2]; done) | (simp only [rowAt, c1, d1, c2, d2, ne_eq, not_true_eq_false, not_false_eq_true, and_true, true_and, and_false, false_and, or_true, true_or, or_false, false_or, and_self, or_self, decide_eq_true_eq, ↓reduceIte])))
theorem nmX7_marginOf : nmV yX7_marginOf RX7 1 := by decide +kernel
set_option maxHeartbeats 4000000 in
set_option maxRecDepth 100000 in
theorem c_X7_marginOf (l : Launch) (G : GT) (H : Heap) (k : Int32) : RdV l G H yX7_marginOf wsX7_marginOf { frames := 0, cells := 0, slots := 0, locals := 0 } [.int k] (some (.int (maOf k))) := by
  refine rd_of (cc := cX7_marginOf) (maxL := 1) (ret := (some .int)) (by decide) rfl (Nat.le_of_ble_eq_true rfl) ?_
  intro pZ eZ sZ mZ bZ meZ cZ ls S hr hlk hl hH hG
  have S : CallFix pZ mZ cZ cX7_marginOf 1 sZ _ wsX7_marginOf RX7 := S
  have hx := S.1
  have hb := S.2.1
  have hown := S.2.2.2.1
  have hts := S.2.2.2.2
  have hl : lv_has ls 1 [(0, .int k)] := hl
  refine lv_iload_n hx hb dX7_marginOf_0 rfl (lv_at hl 0 rfl) ?_
  refine lv_if_ne (tgt := 9) hx hb dX7_marginOf_1 (by decide) (fun c1 => ?_) (fun c1 => ?_)
  · refine lv_iload_n hx hb dX7_marginOf_9 rfl (lv_at hl 0 rfl) ?_
    refine lv_iconst (v := 1) hx hb dX7_marginOf_10 (by decide) ?_
    refine lv_icmp_ne (tgt := 19) hx hb dX7_marginOf_11 (by decide) (fun c2 => ?_) (fun c2 => ?_)
    · refine lv_bipush (v := 90) hx hb dX7_marginOf_19 (by decide) ?_
      exact rd_iret S hr hlk dX7_marginOf_21 (congrArg (fun z => some (Value.int z)) (by first | rfl | (simp only [maOf, c1, c2, ne_eq, not_true_eq_false, not_false_eq_true, and_true, true_and, and_false, false_and, or_true, true_or, or_false, false_or, and_self, or_self, decide_eq_true_eq, ↓reduceIte]; done) | (simp [maOf, c1, c2]; done) | (simp only [maOf, c1, c2, ne_eq, not_true_eq_false, not_false_eq_true, and_true, true_and, and_false, false_and, or_true, true_or, or_false, false_or, and_self, or_self, decide_eq_true_eq, ↓reduceIte])))
    · refine lv_bipush (v := 75) hx hb dX7_marginOf_14 (by decide) ?_
      refine lv_goto (tgt := 21) hx hb dX7_marginOf_16 (by decide) ?_
      exact rd_iret S hr hlk dX7_marginOf_21 (congrArg (fun z => some (Value.int z)) (by first | rfl | (simp only [maOf, c1, c2, ne_eq, not_true_eq_false, not_false_eq_true, and_true, true_and, and_false, false_and, or_true, true_or, or_false, false_or, and_self, or_self, decide_eq_true_eq, ↓reduceIte]; done) | (simp [maOf, c1, c2]; done) | (simp only [maOf, c1, c2, ne_eq, not_true_eq_false, not_false_eq_true, and_true, true_and, and_false, false_and, or_true, true_or, or_false, false_or, and_self, or_self, decide_eq_true_eq, ↓reduceIte])))
  · refine lv_bipush (v := 30) hx hb dX7_marginOf_4 (by decide) ?_
    refine lv_goto (tgt := 21) hx hb dX7_marginOf_6 (by decide) ?_
    exact rd_iret S hr hlk dX7_marginOf_21 (congrArg (fun z => some (Value.int z)) (by first | rfl | (simp only [maOf, c1, ne_eq, not_true_eq_false, not_false_eq_true, and_true, true_and, and_false, false_and, or_true, true_or, or_false, false_or, and_self, or_self, decide_eq_true_eq, ↓reduceIte]; done) | (simp [maOf, c1]; done) | (simp only [maOf, c1, ne_eq, not_true_eq_false, not_false_eq_true, and_true, true_and, and_false, false_and, or_true, true_or, or_false, false_or, and_self, or_self, decide_eq_true_eq, ↓reduceIte])))
theorem nmX7_baseOf : nmV yX7_baseOf RX7 1 := by decide +kernel
set_option maxHeartbeats 4000000 in
set_option maxRecDepth 100000 in
theorem c_X7_baseOf (l : Launch) (G : GT) (H : Heap) (k : Int32) : RdV l G H yX7_baseOf wsX7_baseOf { frames := 0, cells := 0, slots := 0, locals := 0 } [.int k] (some (.int (baOf k))) := by
  refine rd_of (cc := cX7_baseOf) (maxL := 1) (ret := (some .int)) (by decide) rfl (Nat.le_of_ble_eq_true rfl) ?_
  intro pZ eZ sZ mZ bZ meZ cZ ls S hr hlk hl hH hG
  have S : CallFix pZ mZ cZ cX7_baseOf 1 sZ _ wsX7_baseOf RX7 := S
  have hx := S.1
  have hb := S.2.1
  have hown := S.2.2.2.1
  have hts := S.2.2.2.2
  have hl : lv_has ls 1 [(0, .int k)] := hl
  refine lv_iload_n hx hb dX7_baseOf_0 rfl (lv_at hl 0 rfl) ?_
  refine lv_if_ne (tgt := 10) hx hb dX7_baseOf_1 (by decide) (fun c1 => ?_) (fun c1 => ?_)
  · refine lv_iload_n hx hb dX7_baseOf_10 rfl (lv_at hl 0 rfl) ?_
    refine lv_iconst (v := 1) hx hb dX7_baseOf_11 (by decide) ?_
    refine lv_icmp_ne (tgt := 21) hx hb dX7_baseOf_12 (by decide) (fun c2 => ?_) (fun c2 => ?_)
    · refine lv_sipush (v := 300) hx hb dX7_baseOf_21 (by decide) ?_
      exact rd_iret S hr hlk dX7_baseOf_24 (congrArg (fun z => some (Value.int z)) (by first | rfl | (simp only [baOf, c1, c2, ne_eq, not_true_eq_false, not_false_eq_true, and_true, true_and, and_false, false_and, or_true, true_or, or_false, false_or, and_self, or_self, decide_eq_true_eq, ↓reduceIte]; done) | (simp [baOf, c1, c2]; done) | (simp only [baOf, c1, c2, ne_eq, not_true_eq_false, not_false_eq_true, and_true, true_and, and_false, false_and, or_true, true_or, or_false, false_or, and_self, or_self, decide_eq_true_eq, ↓reduceIte])))
    · refine lv_sipush (v := 250) hx hb dX7_baseOf_15 (by decide) ?_
      refine lv_goto (tgt := 24) hx hb dX7_baseOf_18 (by decide) ?_
      exact rd_iret S hr hlk dX7_baseOf_24 (congrArg (fun z => some (Value.int z)) (by first | rfl | (simp only [baOf, c1, c2, ne_eq, not_true_eq_false, not_false_eq_true, and_true, true_and, and_false, false_and, or_true, true_or, or_false, false_or, and_self, or_self, decide_eq_true_eq, ↓reduceIte]; done) | (simp [baOf, c1, c2]; done) | (simp only [baOf, c1, c2, ne_eq, not_true_eq_false, not_false_eq_true, and_true, true_and, and_false, false_and, or_true, true_or, or_false, false_or, and_self, or_self, decide_eq_true_eq, ↓reduceIte])))
  · refine lv_sipush (v := 200) hx hb dX7_baseOf_4 (by decide) ?_
    refine lv_goto (tgt := 24) hx hb dX7_baseOf_7 (by decide) ?_
    exact rd_iret S hr hlk dX7_baseOf_24 (congrArg (fun z => some (Value.int z)) (by first | rfl | (simp only [baOf, c1, ne_eq, not_true_eq_false, not_false_eq_true, and_true, true_and, and_false, false_and, or_true, true_or, or_false, false_or, and_self, or_self, decide_eq_true_eq, ↓reduceIte]; done) | (simp [baOf, c1]; done) | (simp only [baOf, c1, ne_eq, not_true_eq_false, not_false_eq_true, and_true, true_and, and_false, false_and, or_true, true_or, or_false, false_or, and_self, or_self, decide_eq_true_eq, ↓reduceIte])))
theorem nmX7_roundedUp : nmV yX7_roundedUp RX7 1 := by decide +kernel
set_option maxHeartbeats 4000000 in
set_option maxRecDepth 100000 in
theorem c_X7_roundedUp (l : Launch) (G : GT) (H : Heap) (h : Int32) : RdV l G H yX7_roundedUp wsX7_roundedUp { frames := 0, cells := 0, slots := 0, locals := 0 } [.int h] (some (.int (rUp h))) := by
  refine rd_of (cc := cX7_roundedUp) (maxL := 1) (ret := (some .int)) (by decide) rfl (Nat.le_of_ble_eq_true rfl) ?_
  intro pZ eZ sZ mZ bZ meZ cZ ls S hr hlk hl hH hG
  have S : CallFix pZ mZ cZ cX7_roundedUp 1 sZ _ wsX7_roundedUp RX7 := S
  have hx := S.1
  have hb := S.2.1
  have hown := S.2.2.2.1
  have hts := S.2.2.2.2
  have hl : lv_has ls 1 [(0, .int h)] := hl
  refine lv_iload_n hx hb dX7_roundedUp_0 rfl (lv_at hl 0 rfl) ?_
  refine lv_bipush (v := 9) hx hb dX7_roundedUp_1 (by decide) ?_
  refine lv_iadd hx hb dX7_roundedUp_3 ?_
  refine lv_bipush (v := 10) hx hb dX7_roundedUp_4 (by decide) ?_
  refine lv_idiv hx hb dX7_roundedUp_6 (by decide) ?_
  refine lv_bipush (v := 10) hx hb dX7_roundedUp_7 (by decide) ?_
  refine lv_imul hx hb dX7_roundedUp_9 ?_
  exact rd_iret S hr hlk dX7_roundedUp_10 (congrArg (fun z => some (Value.int z)) (by first | rfl | (simp only [rUp, ne_eq, not_true_eq_false, not_false_eq_true, and_true, true_and, and_false, false_and, or_true, true_or, or_false, false_or, and_self, or_self, decide_eq_true_eq, ↓reduceIte]; done) | (simp [rUp]; done) | (simp only [rUp, ne_eq, not_true_eq_false, not_false_eq_true, and_true, true_and, and_false, false_and, or_true, true_or, or_false, false_or, and_self, or_self, decide_eq_true_eq, ↓reduceIte])))
theorem nmX7_forCategory : nmV yX7_forCategory RX7 2 := by decide +kernel
set_option maxHeartbeats 4000000 in
set_option maxRecDepth 100000 in
theorem c_X7_forCategory (l : Launch) (G : GT) (H : Heap) (h c : Int32) : RdV l G H yX7_forCategory wsX7_forCategory { frames := 0, cells := 0, slots := 0, locals := 0 } [.int h, .int c] (some (.int (fCat h c))) := by
  refine rd_of (cc := cX7_forCategory) (maxL := 2) (ret := (some .int)) (by decide) rfl (Nat.le_of_ble_eq_true rfl) ?_
  intro pZ eZ sZ mZ bZ meZ cZ ls S hr hlk hl hH hG
  have S : CallFix pZ mZ cZ cX7_forCategory 2 sZ _ wsX7_forCategory RX7 := S
  have hx := S.1
  have hb := S.2.1
  have hown := S.2.2.2.1
  have hts := S.2.2.2.2
  have hl : lv_has ls 2 [(0, .int h), (1, .int c)] := hl
  refine lv_iload_n hx hb dX7_forCategory_0 rfl (lv_at hl 0 rfl) ?_
  refine lv_iconst (v := (-1)) hx hb dX7_forCategory_1 (by decide) ?_
  refine lv_icmp_ne (tgt := 9) hx hb dX7_forCategory_2 (by decide) (fun c1 => ?_) (fun c1 => ?_)
  · refine lv_iload_n hx hb dX7_forCategory_9 rfl (lv_at hl 0 rfl) ?_
    refine lv_bipush (v := 10) hx hb dX7_forCategory_10 (by decide) ?_
    refine lv_iload_n hx hb dX7_forCategory_12 rfl (lv_at hl 1 rfl) ?_
    refine lv_imul hx hb dX7_forCategory_13 ?_
    refine lv_iadd hx hb dX7_forCategory_14 ?_
    exact rd_iret S hr hlk dX7_forCategory_15 (congrArg (fun z => some (Value.int z)) (by first | rfl | (simp only [fCat, c1, ne_eq, not_true_eq_false, not_false_eq_true, and_true, true_and, and_false, false_and, or_true, true_or, or_false, false_or, and_self, or_self, decide_eq_true_eq, ↓reduceIte]; done) | (simp [fCat, c1]; done) | (simp only [fCat, c1, ne_eq, not_true_eq_false, not_false_eq_true, and_true, true_and, and_false, false_and, or_true, true_or, or_false, false_or, and_self, or_self, decide_eq_true_eq, ↓reduceIte])))
  · refine lv_iconst (v := (-1)) hx hb dX7_forCategory_5 (by decide) ?_
    refine lv_goto (tgt := 15) hx hb dX7_forCategory_6 (by decide) ?_
    exact rd_iret S hr hlk dX7_forCategory_15 (congrArg (fun z => some (Value.int z)) (by first | rfl | (simp only [fCat, c1, ne_eq, not_true_eq_false, not_false_eq_true, and_true, true_and, and_false, false_and, or_true, true_or, or_false, false_or, and_self, or_self, decide_eq_true_eq, ↓reduceIte]; done) | (simp [fCat, c1]; done) | (simp only [fCat, c1, ne_eq, not_true_eq_false, not_false_eq_true, and_true, true_and, and_false, false_and, or_true, true_or, or_false, false_or, and_self, or_self, decide_eq_true_eq, ↓reduceIte])))
theorem nmX7_needOf : nmV yX7_needOf RX7 5 := by decide +kernel
set_option maxHeartbeats 4000000 in
set_option maxRecDepth 100000 in
theorem c_X7_needOf (l : Launch) (G : GT) (H : Heap) (x y t k v : Int32) : RdV l G H yX7_needOf wsX7_needOf { frames := 1, cells := 0, slots := 0, locals := 21 } [.int x, .int y, .int t, .int k, .int v] (some (.int (need x y t k v))) := by
  refine rd_of (cc := cX7_needOf) (maxL := 7) (ret := (some .int)) (by decide) rfl (Nat.le_of_ble_eq_true rfl) ?_
  intro pZ eZ sZ mZ bZ meZ cZ ls S hr hlk hl hH hG
  have S : CallFix pZ mZ cZ cX7_needOf 7 sZ _ wsX7_needOf RX7 := S
  have hx := S.1
  have hb := S.2.1
  have hown := S.2.2.2.1
  have hts := S.2.2.2.2
  have hl : lv_has ls 7 [(0, .int x), (1, .int y), (2, .int t), (3, .int k), (4, .int v)] := hl
  have m_abs_295 : [.methodLink RX7 295 Lib.Math.abs.name, .static Lib.Math.abs.name, .initialized "java/lang/Math", .code Lib.Math.abs.name Lib.Math.abs.code 1 (some .int)] ⊆ wsX7_needOf := by decide +kernel
  refine lv_iload_n hx hb dX7_needOf_0 rfl (lv_at hl 0 rfl) ?_
  refine lv_if_ge (tgt := 14) hx hb dX7_needOf_1 (by decide) (fun c1 => ?_) (fun c1 => ?_)
  · have d1 := Int32.not_lt.mpr c1
    refine lv_iload_n hx hb dX7_needOf_14 rfl (lv_at hl 3 rfl) ?_
    refine lv_if_ne (tgt := 28) hx hb dX7_needOf_15 (by decide) (fun c2 => ?_) (fun c2 => ?_)
    · refine lv_iconst (v := 1) hx hb dX7_needOf_28 (by decide) ?_
      refine lv_iload_n hx hb dX7_needOf_29 rfl (lv_at hl 0 rfl) ?_
      refine lv_bipush (v := 10) hx hb dX7_needOf_30 (by decide) ?_
      refine lv_idiv hx hb dX7_needOf_32 (by decide) ?_
      refine lv_iadd hx hb dX7_needOf_33 ?_
      refine lv_topi (fun x3 ex3 => ?_)
      refine lv_istore (lv' := [(5, .int x3), (0, .int x), (1, .int y), (2, .int t), (3, .int k), (4, .int v)]) hx hb dX7_needOf_34 hl (by decide) rfl (fun ls hl => ?_)
      refine lv_iload_n hx hb dX7_needOf_36 rfl (lv_at hl 2 rfl) ?_
      refine rd_abs S hl.1 m_abs_295 ⟨Nat.le_of_ble_eq_true rfl, Nat.le_of_ble_eq_true rfl⟩ (Nat.le_of_ble_eq_true rfl) ⟨Nat.zero_le _, Nat.zero_le _⟩ dX7_needOf_37 ?_
      refine W.eq (g2 := F0 mZ 40 ls [.int (iabs y)]) rfl ?_
      refine lv_topi (fun x4 ex4 => ?_)
      refine lv_istore (lv' := [(6, .int x4), (5, .int x3), (0, .int x), (1, .int y), (2, .int t), (3, .int k), (4, .int v)]) hx hb dX7_needOf_40 hl (by decide) rfl (fun ls hl => ?_)
      refine lv_iload hx hb dX7_needOf_42 (lv_at hl 0 rfl) ?_
      refine lv_iload hx hb dX7_needOf_44 (lv_at hl 1 rfl) ?_
      refine lv_icmp_gt (tgt := 56) hx hb dX7_needOf_46 (by decide) (fun c5 => ?_) (fun c5 => ?_)
      · have d5 := Int32.not_le.mpr c5
        refine lv_iload hx hb dX7_needOf_56 (lv_at hl 0 rfl) ?_
        refine lv_iconst (v := 2) hx hb dX7_needOf_58 (by decide) ?_
        refine lv_iload hx hb dX7_needOf_59 (lv_at hl 1 rfl) ?_
        refine lv_imul hx hb dX7_needOf_61 ?_
        refine lv_icmp_gt (tgt := 88) hx hb dX7_needOf_62 (by decide) (fun c6 => ?_) (fun c6 => ?_)
        · have d6 := Int32.not_le.mpr c6
          refine lv_iconst (v := 0) hx hb dX7_needOf_88 (by decide) ?_
          exact rd_iret S hr hlk dX7_needOf_89 (congrArg (fun z => some (Value.int z)) (by subst ex4; subst ex3; first | rfl | (simp only [need, c1, d1, c2, c5, d5, c6, d6, ne_eq, not_true_eq_false, not_false_eq_true, and_true, true_and, and_false, false_and, or_true, true_or, or_false, false_or, and_self, or_self, decide_eq_true_eq, ↓reduceIte]; done) | (simp [need, c1, d1, c2, c5, d5, c6, d6]; done) | (simp only [need, c1, d1, c2, c5, d5, c6, d6, ne_eq, not_true_eq_false, not_false_eq_true, and_true, true_and, and_false, false_and, or_true, true_or, or_false, false_or, and_self, or_self, decide_eq_true_eq, ↓reduceIte])))
        · have d6 := Int32.not_lt.mp c6
          refine lv_iload hx hb dX7_needOf_65 (lv_at hl 1 rfl) ?_
          refine lv_if_le (tgt := 88) hx hb dX7_needOf_67 (by decide) (fun c7 => ?_) (fun c7 => ?_)
          · have d7 := Int32.not_lt.mpr c7
            refine lv_iconst (v := 0) hx hb dX7_needOf_88 (by decide) ?_
            exact rd_iret S hr hlk dX7_needOf_89 (congrArg (fun z => some (Value.int z)) (by subst ex4; subst ex3; first | rfl | (simp only [need, c1, d1, c2, c5, d5, c6, d6, c7, d7, ne_eq, not_true_eq_false, not_false_eq_true, and_true, true_and, and_false, false_and, or_true, true_or, or_false, false_or, and_self, or_self, decide_eq_true_eq, ↓reduceIte]; done) | (simp [need, c1, d1, c2, c5, d5, c6, d6, c7, d7]; done) | (simp only [need, c1, d1, c2, c5, d5, c6, d6, c7, d7, ne_eq, not_true_eq_false, not_false_eq_true, and_true, true_and, and_false, false_and, or_true, true_or, or_false, false_or, and_self, or_self, decide_eq_true_eq, ↓reduceIte])))
          · have d7 := Int32.not_le.mp c7
            refine lv_iload_n hx hb dX7_needOf_70 rfl (lv_at hl 4 rfl) ?_
            refine lv_iload_n hx hb dX7_needOf_71 rfl (lv_at hl 5 rfl) ?_
            refine rd_S (As := [.int k]) (rest := [.int t]) (v := some (.int (maOf k))) S hG (c_X7_marginOf l G H k) gX7_needOf_X7_marginOf rfl ⟨rfl, rfl⟩ nmX7_marginOf ⟨Nat.le_of_ble_eq_true rfl, Nat.le_of_ble_eq_true rfl⟩ rfl hl.1 rfl (Nat.le_of_ble_eq_true rfl) ⟨Nat.zero_le _, Nat.zero_le _⟩ dX7_needOf_72 ?_
            refine W.eq (g2 := F0 mZ 75 ls [.int (maOf k), .int t]) rfl ?_
            refine lv_iconst (v := 2) hx hb dX7_needOf_75 (by decide) ?_
            refine lv_iload hx hb dX7_needOf_76 (lv_at hl 1 rfl) ?_
            refine lv_imul hx hb dX7_needOf_78 ?_
            refine lv_iload hx hb dX7_needOf_79 (lv_at hl 0 rfl) ?_
            refine lv_isub hx hb dX7_needOf_81 ?_
            refine lv_imul hx hb dX7_needOf_82 ?_
            refine lv_iload hx hb dX7_needOf_83 (lv_at hl 1 rfl) ?_
            refine lv_idiv hx hb dX7_needOf_85 (i32_pos_ne (by assumption)) ?_
            refine lv_iadd hx hb dX7_needOf_86 ?_
            exact rd_iret S hr hlk dX7_needOf_87 (congrArg (fun z => some (Value.int z)) (by subst ex4; subst ex3; first | rfl | (simp only [need, c1, d1, c2, c5, d5, c6, d6, c7, d7, ne_eq, not_true_eq_false, not_false_eq_true, and_true, true_and, and_false, false_and, or_true, true_or, or_false, false_or, and_self, or_self, decide_eq_true_eq, ↓reduceIte]; done) | (simp [need, c1, d1, c2, c5, d5, c6, d6, c7, d7]; done) | (simp only [need, c1, d1, c2, c5, d5, c6, d6, c7, d7, ne_eq, not_true_eq_false, not_false_eq_true, and_true, true_and, and_false, false_and, or_true, true_or, or_false, false_or, and_self, or_self, decide_eq_true_eq, ↓reduceIte])))
      · have d5 := Int32.not_lt.mp c5
        refine lv_iload_n hx hb dX7_needOf_49 rfl (lv_at hl 4 rfl) ?_
        refine lv_iload_n hx hb dX7_needOf_50 rfl (lv_at hl 5 rfl) ?_
        refine rd_S (As := [.int k]) (rest := [.int t]) (v := some (.int (maOf k))) S hG (c_X7_marginOf l G H k) gX7_needOf_X7_marginOf rfl ⟨rfl, rfl⟩ nmX7_marginOf ⟨Nat.le_of_ble_eq_true rfl, Nat.le_of_ble_eq_true rfl⟩ rfl hl.1 rfl (Nat.le_of_ble_eq_true rfl) ⟨Nat.zero_le _, Nat.zero_le _⟩ dX7_needOf_51 ?_
        refine W.eq (g2 := F0 mZ 54 ls [.int (maOf k), .int t]) rfl ?_
        refine lv_iadd hx hb dX7_needOf_54 ?_
        exact rd_iret S hr hlk dX7_needOf_55 (congrArg (fun z => some (Value.int z)) (by subst ex4; subst ex3; first | rfl | (simp only [need, c1, d1, c2, c5, d5, ne_eq, not_true_eq_false, not_false_eq_true, and_true, true_and, and_false, false_and, or_true, true_or, or_false, false_or, and_self, or_self, decide_eq_true_eq, ↓reduceIte]; done) | (simp [need, c1, d1, c2, c5, d5]; done) | (simp only [need, c1, d1, c2, c5, d5, ne_eq, not_true_eq_false, not_false_eq_true, and_true, true_and, and_false, false_and, or_true, true_or, or_false, false_or, and_self, or_self, decide_eq_true_eq, ↓reduceIte])))
    · refine lv_iload_n hx hb dX7_needOf_18 rfl (lv_at hl 2 rfl) ?_
      refine lv_iload_n hx hb dX7_needOf_19 rfl (lv_at hl 0 rfl) ?_
      refine lv_iload hx hb dX7_needOf_20 (lv_at hl 4 rfl) ?_
      refine lv_imul hx hb dX7_needOf_22 ?_
      refine lv_icmp_gt (tgt := 28) hx hb dX7_needOf_23 (by decide) (fun c8 => ?_) (fun c8 => ?_)
      · have d8 := Int32.not_le.mpr c8
        refine lv_iconst (v := 1) hx hb dX7_needOf_28 (by decide) ?_
        refine lv_iload_n hx hb dX7_needOf_29 rfl (lv_at hl 0 rfl) ?_
        refine lv_bipush (v := 10) hx hb dX7_needOf_30 (by decide) ?_
        refine lv_idiv hx hb dX7_needOf_32 (by decide) ?_
        refine lv_iadd hx hb dX7_needOf_33 ?_
        refine lv_topi (fun x9 ex9 => ?_)
        refine lv_istore (lv' := [(5, .int x9), (0, .int x), (1, .int y), (2, .int t), (3, .int k), (4, .int v)]) hx hb dX7_needOf_34 hl (by decide) rfl (fun ls hl => ?_)
        refine lv_iload_n hx hb dX7_needOf_36 rfl (lv_at hl 2 rfl) ?_
        refine rd_abs S hl.1 m_abs_295 ⟨Nat.le_of_ble_eq_true rfl, Nat.le_of_ble_eq_true rfl⟩ (Nat.le_of_ble_eq_true rfl) ⟨Nat.zero_le _, Nat.zero_le _⟩ dX7_needOf_37 ?_
        refine W.eq (g2 := F0 mZ 40 ls [.int (iabs y)]) rfl ?_
        refine lv_topi (fun x10 ex10 => ?_)
        refine lv_istore (lv' := [(6, .int x10), (5, .int x9), (0, .int x), (1, .int y), (2, .int t), (3, .int k), (4, .int v)]) hx hb dX7_needOf_40 hl (by decide) rfl (fun ls hl => ?_)
        refine lv_iload hx hb dX7_needOf_42 (lv_at hl 0 rfl) ?_
        refine lv_iload hx hb dX7_needOf_44 (lv_at hl 1 rfl) ?_
        refine lv_icmp_gt (tgt := 56) hx hb dX7_needOf_46 (by decide) (fun c11 => ?_) (fun c11 => ?_)
        · have d11 := Int32.not_le.mpr c11
          refine lv_iload hx hb dX7_needOf_56 (lv_at hl 0 rfl) ?_
          refine lv_iconst (v := 2) hx hb dX7_needOf_58 (by decide) ?_
          refine lv_iload hx hb dX7_needOf_59 (lv_at hl 1 rfl) ?_
          refine lv_imul hx hb dX7_needOf_61 ?_
          refine lv_icmp_gt (tgt := 88) hx hb dX7_needOf_62 (by decide) (fun c12 => ?_) (fun c12 => ?_)
          · have d12 := Int32.not_le.mpr c12
            refine lv_iconst (v := 0) hx hb dX7_needOf_88 (by decide) ?_
            exact rd_iret S hr hlk dX7_needOf_89 (congrArg (fun z => some (Value.int z)) (by subst ex10; subst ex9; first | rfl | (simp only [need, c1, d1, c2, c8, d8, c11, d11, c12, d12, ne_eq, not_true_eq_false, not_false_eq_true, and_true, true_and, and_false, false_and, or_true, true_or, or_false, false_or, and_self, or_self, decide_eq_true_eq, ↓reduceIte]; done) | (simp [need, c1, d1, c2, c8, d8, c11, d11, c12, d12]; done) | (simp only [need, c1, d1, c2, c8, d8, c11, d11, c12, d12, ne_eq, not_true_eq_false, not_false_eq_true, and_true, true_and, and_false, false_and, or_true, true_or, or_false, false_or, and_self, or_self, decide_eq_true_eq, ↓reduceIte])))
          · have d12 := Int32.not_lt.mp c12
            refine lv_iload hx hb dX7_needOf_65 (lv_at hl 1 rfl) ?_
            refine lv_if_le (tgt := 88) hx hb dX7_needOf_67 (by decide) (fun c13 => ?_) (fun c13 => ?_)
            · have d13 := Int32.not_lt.mpr c13
              refine lv_iconst (v := 0) hx hb dX7_needOf_88 (by decide) ?_
              exact rd_iret S hr hlk dX7_needOf_89 (congrArg (fun z => some (Value.int z)) (by subst ex10; subst ex9; first | rfl | (simp only [need, c1, d1, c2, c8, d8, c11, d11, c12, d12, c13, d13, ne_eq, not_true_eq_false, not_false_eq_true, and_true, true_and, and_false, false_and, or_true, true_or, or_false, false_or, and_self, or_self, decide_eq_true_eq, ↓reduceIte]; done) | (simp [need, c1, d1, c2, c8, d8, c11, d11, c12, d12, c13, d13]; done) | (simp only [need, c1, d1, c2, c8, d8, c11, d11, c12, d12, c13, d13, ne_eq, not_true_eq_false, not_false_eq_true, and_true, true_and, and_false, false_and, or_true, true_or, or_false, false_or, and_self, or_self, decide_eq_true_eq, ↓reduceIte])))
            · have d13 := Int32.not_le.mp c13
              refine lv_iload_n hx hb dX7_needOf_70 rfl (lv_at hl 4 rfl) ?_
              refine lv_iload_n hx hb dX7_needOf_71 rfl (lv_at hl 5 rfl) ?_
              refine rd_S (As := [.int k]) (rest := [.int t]) (v := some (.int (maOf k))) S hG (c_X7_marginOf l G H k) gX7_needOf_X7_marginOf rfl ⟨rfl, rfl⟩ nmX7_marginOf ⟨Nat.le_of_ble_eq_true rfl, Nat.le_of_ble_eq_true rfl⟩ rfl hl.1 rfl (Nat.le_of_ble_eq_true rfl) ⟨Nat.zero_le _, Nat.zero_le _⟩ dX7_needOf_72 ?_
              refine W.eq (g2 := F0 mZ 75 ls [.int (maOf k), .int t]) rfl ?_
              refine lv_iconst (v := 2) hx hb dX7_needOf_75 (by decide) ?_
              refine lv_iload hx hb dX7_needOf_76 (lv_at hl 1 rfl) ?_
              refine lv_imul hx hb dX7_needOf_78 ?_
              refine lv_iload hx hb dX7_needOf_79 (lv_at hl 0 rfl) ?_
              refine lv_isub hx hb dX7_needOf_81 ?_
              refine lv_imul hx hb dX7_needOf_82 ?_
              refine lv_iload hx hb dX7_needOf_83 (lv_at hl 1 rfl) ?_
              refine lv_idiv hx hb dX7_needOf_85 (i32_pos_ne (by assumption)) ?_
              refine lv_iadd hx hb dX7_needOf_86 ?_
              exact rd_iret S hr hlk dX7_needOf_87 (congrArg (fun z => some (Value.int z)) (by subst ex10; subst ex9; first | rfl | (simp only [need, c1, d1, c2, c8, d8, c11, d11, c12, d12, c13, d13, ne_eq, not_true_eq_false, not_false_eq_true, and_true, true_and, and_false, false_and, or_true, true_or, or_false, false_or, and_self, or_self, decide_eq_true_eq, ↓reduceIte]; done) | (simp [need, c1, d1, c2, c8, d8, c11, d11, c12, d12, c13, d13]; done) | (simp only [need, c1, d1, c2, c8, d8, c11, d11, c12, d12, c13, d13, ne_eq, not_true_eq_false, not_false_eq_true, and_true, true_and, and_false, false_and, or_true, true_or, or_false, false_or, and_self, or_self, decide_eq_true_eq, ↓reduceIte])))
        · have d11 := Int32.not_lt.mp c11
          refine lv_iload_n hx hb dX7_needOf_49 rfl (lv_at hl 4 rfl) ?_
          refine lv_iload_n hx hb dX7_needOf_50 rfl (lv_at hl 5 rfl) ?_
          refine rd_S (As := [.int k]) (rest := [.int t]) (v := some (.int (maOf k))) S hG (c_X7_marginOf l G H k) gX7_needOf_X7_marginOf rfl ⟨rfl, rfl⟩ nmX7_marginOf ⟨Nat.le_of_ble_eq_true rfl, Nat.le_of_ble_eq_true rfl⟩ rfl hl.1 rfl (Nat.le_of_ble_eq_true rfl) ⟨Nat.zero_le _, Nat.zero_le _⟩ dX7_needOf_51 ?_
          refine W.eq (g2 := F0 mZ 54 ls [.int (maOf k), .int t]) rfl ?_
          refine lv_iadd hx hb dX7_needOf_54 ?_
          exact rd_iret S hr hlk dX7_needOf_55 (congrArg (fun z => some (Value.int z)) (by subst ex10; subst ex9; first | rfl | (simp only [need, c1, d1, c2, c8, d8, c11, d11, ne_eq, not_true_eq_false, not_false_eq_true, and_true, true_and, and_false, false_and, or_true, true_or, or_false, false_or, and_self, or_self, decide_eq_true_eq, ↓reduceIte]; done) | (simp [need, c1, d1, c2, c8, d8, c11, d11]; done) | (simp only [need, c1, d1, c2, c8, d8, c11, d11, ne_eq, not_true_eq_false, not_false_eq_true, and_true, true_and, and_false, false_and, or_true, true_or, or_false, false_or, and_self, or_self, decide_eq_true_eq, ↓reduceIte])))
      · have d8 := Int32.not_lt.mp c8
        refine lv_iconst (v := 0) hx hb dX7_needOf_26 (by decide) ?_
        exact rd_iret S hr hlk dX7_needOf_27 (congrArg (fun z => some (Value.int z)) (by first | rfl | (simp only [need, c1, d1, c2, c8, d8, ne_eq, not_true_eq_false, not_false_eq_true, and_true, true_and, and_false, false_and, or_true, true_or, or_false, false_or, and_self, or_self, decide_eq_true_eq, ↓reduceIte]; done) | (simp [need, c1, d1, c2, c8, d8]; done) | (simp only [need, c1, d1, c2, c8, d8, ne_eq, not_true_eq_false, not_false_eq_true, and_true, true_and, and_false, false_and, or_true, true_or, or_false, false_or, and_self, or_self, decide_eq_true_eq, ↓reduceIte])))
  · have d1 := Int32.not_le.mp c1
    refine lv_iload_n hx hb dX7_needOf_4 rfl (lv_at hl 2 rfl) ?_
    refine lv_bipush (v := 30) hx hb dX7_needOf_5 (by decide) ?_
    refine lv_iadd hx hb dX7_needOf_7 ?_
    refine lv_bipush (v := 25) hx hb dX7_needOf_8 (by decide) ?_
    refine lv_iload_n hx hb dX7_needOf_10 rfl (lv_at hl 0 rfl) ?_
    refine lv_imul hx hb dX7_needOf_11 ?_
    refine lv_iadd hx hb dX7_needOf_12 ?_
    exact rd_iret S hr hlk dX7_needOf_13 (congrArg (fun z => some (Value.int z)) (by first | rfl | (simp only [need, c1, d1, ne_eq, not_true_eq_false, not_false_eq_true, and_true, true_and, and_false, false_and, or_true, true_or, or_false, false_or, and_self, or_self, decide_eq_true_eq, ↓reduceIte]; done) | (simp [need, c1, d1]; done) | (simp only [need, c1, d1, ne_eq, not_true_eq_false, not_false_eq_true, and_true, true_and, and_false, false_and, or_true, true_or, or_false, false_or, and_self, or_self, decide_eq_true_eq, ↓reduceIte])))
theorem nmX4_isThere : nmV yX4_isThere RX4 2 := by decide +kernel
set_option maxHeartbeats 4000000 in
set_option maxRecDepth 100000 in
theorem c_X4_isThere (l : Launch) (G : GT) (A : Nat → Nat) (f : Nat → Nat → Int32) (g : Nat → Nat) (H : Heap) (hR : RP G A f g H) (i d : Int32) : RdV l G H yX4_isThere wsX4_isThere { frames := 1, cells := 0, slots := 0, locals := 21 } [.ref (A 1), .int i, .int d] (some (.int (b2i (isTh f i d = true)))) := by
  refine rd_of (cc := cX4_isThere) (maxL := 4) (ret := (some .boolean)) (by decide) rfl (Nat.le_of_ble_eq_true rfl) ?_
  intro pZ eZ sZ mZ bZ meZ cZ ls S hr hlk hl hH hG
  have S : CallFix pZ mZ cZ cX4_isThere 4 sZ _ wsX4_isThere RX4 := S
  have hx := S.1
  have hb := S.2.1
  have hown := S.2.2.2.1
  have hts := S.2.2.2.2
  have hl : lv_has ls 4 [(0, .ref (A 1)), (1, .int i), (2, .int d)] := hl
  have w0 := hts (.fieldLink RX4 29 "MinimaRoom$Obstacles" "tos" "LMinimaRoom$Row;") (by decide +kernel)
  have w1 := hts (.fieldLink RX4 26 "MinimaRoom$Obstacles" "froms" "LMinimaRoom$Row;") (by decide +kernel)
  have iX4 : ∀ w ∈ u_ws RX4 TX4 6, w ∈ wsX4_isThere := by decide +kernel
  have hgb := hR.1
  refine lv_aload_n hx hb dX4_isThere_0 rfl (lv_at hl 0 rfl) ?_
  refine rd_get (own := RX4) (x := .ref (A 14)) S hG.1 iX4 (rP_1 hR) 4 rfl (by decide) w0 rfl dX4_isThere_1 ?_
  refine lv_iload_n hx hb dX4_isThere_4 rfl (lv_at hl 1 rfl) ?_
  refine rd_V (As := [.int i]) (rest := []) (v := some (.int (rowAt 12 (f 14) i))) S hG (c_X6_at l G H (A 14) (A 34) 12 (f 14) (by decide) (rP_14 hR) (rP_34 hR) i) gX4_isThere_X6_at rfl ⟨rfl, rfl⟩ nmX6_at ⟨Nat.le_of_ble_eq_true rfl, Nat.le_of_ble_eq_true rfl⟩ (rd_rcv hG.1 (rP_14 hR) rfl) rfl hl.1 rfl (Nat.le_of_ble_eq_true rfl) ⟨Nat.zero_le _, Nat.zero_le _⟩ dX4_isThere_5 ?_
  refine W.eq (g2 := F0 mZ 8 ls [.int (rowAt 12 (f 14) i)]) rfl ?_
  refine lv_topi (fun x1 ex1 => ?_)
  refine lv_istore_n (lv' := [(3, .int x1), (0, .ref (A 1)), (1, .int i), (2, .int d)]) hx hb dX4_isThere_8 rfl hl (by decide) rfl (fun ls hl => ?_)
  refine lv_iload_n hx hb dX4_isThere_9 rfl (lv_at hl 3 rfl) ?_
  refine lv_aload_n hx hb dX4_isThere_10 rfl (lv_at hl 1 rfl) ?_
  refine rd_get (own := RX4) (x := .ref (A 13)) S hG.1 iX4 (rP_1 hR) 3 rfl (by decide) w1 rfl dX4_isThere_11 ?_
  refine lv_iload_n hx hb dX4_isThere_14 rfl (lv_at hl 2 rfl) ?_
  refine rd_V (As := [.int i]) (rest := [.int d]) (v := some (.int (rowAt 12 (f 13) i))) S hG (c_X6_at l G H (A 13) (A 33) 12 (f 13) (by decide) (rP_13 hR) (rP_33 hR) i) gX4_isThere_X6_at rfl ⟨rfl, rfl⟩ nmX6_at ⟨Nat.le_of_ble_eq_true rfl, Nat.le_of_ble_eq_true rfl⟩ (rd_rcv hG.1 (rP_13 hR) rfl) rfl hl.1 rfl (Nat.le_of_ble_eq_true rfl) ⟨Nat.zero_le _, Nat.zero_le _⟩ dX4_isThere_15 ?_
  refine W.eq (g2 := F0 mZ 18 ls [.int (rowAt 12 (f 13) i), .int d]) rfl ?_
  refine lv_icmp_lt (tgt := 35) hx hb dX4_isThere_18 (by decide) (fun c2 => ?_) (fun c2 => ?_)
  · have d2 := Int32.not_le.mpr c2
    refine lv_iconst (v := 0) hx hb dX4_isThere_35 (by decide) ?_
    exact rd_zret S hr hlk dX4_isThere_36 (by first | rfl | exact nz_b2i _) (congrArg (fun z => some (Value.int z)) (by subst ex1; first | rfl | (simp only [isTh, b2i, c2, d2, ne_eq, not_true_eq_false, not_false_eq_true, and_true, true_and, and_false, false_and, or_true, true_or, or_false, false_or, and_self, or_self, decide_eq_true_eq, ↓reduceIte]; done) | (simp [isTh, b2i, c2, d2]; done) | (simp only [isTh, b2i, c2, d2, ne_eq, not_true_eq_false, not_false_eq_true, and_true, true_and, and_false, false_and, or_true, true_or, or_false, false_or, and_self, or_self, decide_eq_true_eq, ↓reduceIte])))
  · have d2 := Int32.not_lt.mp c2
    refine lv_iload_n hx hb dX4_isThere_21 rfl (lv_at hl 0 rfl) ?_
    refine lv_iconst (v := (-1)) hx hb dX4_isThere_22 (by decide) ?_
    refine lv_icmp_eq (tgt := 31) hx hb dX4_isThere_23 (by decide) (fun c3 => ?_) (fun c3 => ?_)
    · refine lv_iconst (v := 1) hx hb dX4_isThere_31 (by decide) ?_
      refine lv_goto (tgt := 36) hx hb dX4_isThere_32 (by decide) ?_
      exact rd_zret S hr hlk dX4_isThere_36 (by first | rfl | exact nz_b2i _) (congrArg (fun z => some (Value.int z)) (by subst ex1; first | rfl | (simp only [isTh, b2i, c2, d2, c3, ne_eq, not_true_eq_false, not_false_eq_true, and_true, true_and, and_false, false_and, or_true, true_or, or_false, false_or, and_self, or_self, decide_eq_true_eq, ↓reduceIte]; done) | (simp [isTh, b2i, c2, d2, c3]; done) | (simp only [isTh, b2i, c2, d2, c3, ne_eq, not_true_eq_false, not_false_eq_true, and_true, true_and, and_false, false_and, or_true, true_or, or_false, false_or, and_self, or_self, decide_eq_true_eq, ↓reduceIte])))
    · refine lv_iload_n hx hb dX4_isThere_26 rfl (lv_at hl 3 rfl) ?_
      refine lv_iload_n hx hb dX4_isThere_27 rfl (lv_at hl 0 rfl) ?_
      refine lv_icmp_gt (tgt := 35) hx hb dX4_isThere_28 (by decide) (fun c4 => ?_) (fun c4 => ?_)
      · have d4 := Int32.not_le.mpr c4
        refine lv_iconst (v := 0) hx hb dX4_isThere_35 (by decide) ?_
        exact rd_zret S hr hlk dX4_isThere_36 (by first | rfl | exact nz_b2i _) (congrArg (fun z => some (Value.int z)) (by subst ex1; first | rfl | (simp only [isTh, b2i, c2, d2, c3, c4, d4, ne_eq, not_true_eq_false, not_false_eq_true, and_true, true_and, and_false, false_and, or_true, true_or, or_false, false_or, and_self, or_self, decide_eq_true_eq, ↓reduceIte]; done) | (simp [isTh, b2i, c2, d2, c3, c4, d4]; done) | (simp only [isTh, b2i, c2, d2, c3, c4, d4, ne_eq, not_true_eq_false, not_false_eq_true, and_true, true_and, and_false, false_and, or_true, true_or, or_false, false_or, and_self, or_self, decide_eq_true_eq, ↓reduceIte])))
      · have d4 := Int32.not_lt.mp c4
        refine lv_iconst (v := 1) hx hb dX4_isThere_31 (by decide) ?_
        refine lv_goto (tgt := 36) hx hb dX4_isThere_32 (by decide) ?_
        exact rd_zret S hr hlk dX4_isThere_36 (by first | rfl | exact nz_b2i _) (congrArg (fun z => some (Value.int z)) (by subst ex1; first | rfl | (simp only [isTh, b2i, c2, d2, c3, c4, d4, ne_eq, not_true_eq_false, not_false_eq_true, and_true, true_and, and_false, false_and, or_true, true_or, or_false, false_or, and_self, or_self, decide_eq_true_eq, ↓reduceIte]; done) | (simp [isTh, b2i, c2, d2, c3, c4, d4]; done) | (simp only [isTh, b2i, c2, d2, c3, c4, d4, ne_eq, not_true_eq_false, not_false_eq_true, and_true, true_and, and_false, false_and, or_true, true_or, or_false, false_or, and_self, or_self, decide_eq_true_eq, ↓reduceIte])))
theorem nmX0_isGood : nmV yX0_isGood RX0 2 := by decide +kernel
set_option maxHeartbeats 4000000 in
set_option maxRecDepth 100000 in
theorem c_X0_isGood (l : Launch) (G : GT) (A : Nat → Nat) (f : Nat → Nat → Int32) (g : Nat → Nat) (H : Heap) (hR : RP G A f g H) (a d : Int32) : RdV l G H yX0_isGood wsX0_isGood { frames := 1, cells := 0, slots := 0, locals := 21 } [.ref (A 2), .int a, .int d] (some (.int (b2i (isGd f a d = true)))) := by
  refine rd_of (cc := cX0_isGood) (maxL := 3) (ret := (some .boolean)) (by decide) rfl (Nat.le_of_ble_eq_true rfl) ?_
  intro pZ eZ sZ mZ bZ meZ cZ ls S hr hlk hl hH hG
  have S : CallFix pZ mZ cZ cX0_isGood 3 sZ _ wsX0_isGood RX0 := S
  have hx := S.1
  have hb := S.2.1
  have hown := S.2.2.2.1
  have hts := S.2.2.2.2
  have hl : lv_has ls 3 [(0, .ref (A 2)), (1, .int a), (2, .int d)] := hl
  have w0 := hts (.fieldLink RX0 20 "MinimaRoom$Aids" "checks" "LMinimaRoom$Row;") (by decide +kernel)
  have iX0 : ∀ w ∈ u_ws RX0 TX0 2, w ∈ wsX0_isGood := by decide +kernel
  have hgb := hR.1
  refine lv_iload_n hx hb dX0_isGood_0 rfl (lv_at hl 2 rfl) ?_
  refine lv_aload_n hx hb dX0_isGood_1 rfl (lv_at hl 0 rfl) ?_
  refine rd_get (own := RX0) (x := .ref (A 16)) S hG.1 iX0 (rP_2 hR) 1 rfl (by decide) w0 rfl dX0_isGood_2 ?_
  refine lv_iload_n hx hb dX0_isGood_5 rfl (lv_at hl 1 rfl) ?_
  refine rd_V (As := [.int a]) (rest := [.int d]) (v := some (.int (rowAt 3 (f 16) a))) S hG (c_X6_at l G H (A 16) (A 36) 3 (f 16) (by decide) (rP_16 hR) (rP_36 hR) a) gX0_isGood_X6_at rfl ⟨rfl, rfl⟩ nmX6_at ⟨Nat.le_of_ble_eq_true rfl, Nat.le_of_ble_eq_true rfl⟩ (rd_rcv hG.1 (rP_16 hR) rfl) rfl hl.1 rfl (Nat.le_of_ble_eq_true rfl) ⟨Nat.zero_le _, Nat.zero_le _⟩ dX0_isGood_6 ?_
  refine W.eq (g2 := F0 mZ 9 ls [.int (rowAt 3 (f 16) a), .int d]) rfl ?_
  refine lv_icmp_gt (tgt := 16) hx hb dX0_isGood_9 (by decide) (fun c1 => ?_) (fun c1 => ?_)
  · have d1 := Int32.not_le.mpr c1
    refine lv_iconst (v := 0) hx hb dX0_isGood_16 (by decide) ?_
    exact rd_zret S hr hlk dX0_isGood_17 (by first | rfl | exact nz_b2i _) (congrArg (fun z => some (Value.int z)) (by first | rfl | (simp only [isGd, b2i, c1, d1, ne_eq, not_true_eq_false, not_false_eq_true, and_true, true_and, and_false, false_and, or_true, true_or, or_false, false_or, and_self, or_self, decide_eq_true_eq, ↓reduceIte]; done) | (simp [isGd, b2i, c1, d1]; done) | (simp only [isGd, b2i, c1, d1, ne_eq, not_true_eq_false, not_false_eq_true, and_true, true_and, and_false, false_and, or_true, true_or, or_false, false_or, and_self, or_self, decide_eq_true_eq, ↓reduceIte])))
  · have d1 := Int32.not_lt.mp c1
    refine lv_iconst (v := 1) hx hb dX0_isGood_12 (by decide) ?_
    refine lv_goto (tgt := 17) hx hb dX0_isGood_13 (by decide) ?_
    exact rd_zret S hr hlk dX0_isGood_17 (by first | rfl | exact nz_b2i _) (congrArg (fun z => some (Value.int z)) (by first | rfl | (simp only [isGd, b2i, c1, d1, ne_eq, not_true_eq_false, not_false_eq_true, and_true, true_and, and_false, false_and, or_true, true_or, or_false, false_or, and_self, or_self, decide_eq_true_eq, ↓reduceIte]; done) | (simp [isGd, b2i, c1, d1]; done) | (simp only [isGd, b2i, c1, d1, ne_eq, not_true_eq_false, not_false_eq_true, and_true, true_and, and_false, false_and, or_true, true_or, or_false, false_or, and_self, or_self, decide_eq_true_eq, ↓reduceIte])))
theorem nmX0_goodOn : nmV yX0_goodOn RX0 1 := by decide +kernel
set_option maxHeartbeats 4000000 in
set_option maxRecDepth 100000 in
theorem c_X0_goodOn (l : Launch) (G : GT) (A : Nat → Nat) (f : Nat → Nat → Int32) (g : Nat → Nat) (H : Heap) (hR : RP G A f g H) (d : Int32) : RdV l G H yX0_goodOn wsX0_goodOn { frames := 2, cells := 0, slots := 0, locals := 43 } [.ref (A 2), .int d] (some (.int (goOn f d))) := by
  refine rd_of (cc := cX0_goodOn) (maxL := 4) (ret := (some .int)) (by decide) rfl (Nat.le_of_ble_eq_true rfl) ?_
  intro pZ eZ sZ mZ bZ meZ cZ ls S hr hlk hl hH hG
  have S : CallFix pZ mZ cZ cX0_goodOn 4 sZ _ wsX0_goodOn RX0 := S
  have hx := S.1
  have hb := S.2.1
  have hown := S.2.2.2.1
  have hts := S.2.2.2.2
  have hl : lv_has ls 4 [(0, .ref (A 2)), (1, .int d)] := hl
  have hgb := hR.1
  refine lv_iconst (v := 0) hx hb dX0_goodOn_0 (by decide) ?_
  refine lv_istore_n (lv' := [(2, .int 0), (0, .ref (A 2)), (1, .int d)]) hx hb dX0_goodOn_1 rfl hl (by decide) rfl (fun ls hl => ?_)
  refine lv_iconst (v := 0) hx hb dX0_goodOn_2 (by decide) ?_
  refine lv_istore_n (lv' := [(3, .int 0), (2, .int 0), (0, .ref (A 2)), (1, .int d)]) hx hb dX0_goodOn_3 rfl hl (by decide) rfl (fun ls hl => ?_)
  have loop4 : ∀ (n k : Nat), k + n = 3 → ∀ (z4_2 : Int32), z4_2 = fl k (fun j s => if isGd f (nI j) d then s ||| (1 <<< (nI j &&& 31)) else s) 0 → ∀ (ls : Array Slot), lv_has ls 4 [(3, .int (nI k)), (2, .int z4_2), (0, .ref (A 2)), (1, .int d)] → W pZ l eZ ({ frames := 2, cells := 0, slots := 0, locals := 43 } : Room) sZ mZ ([.ref (A 2), .int d] : List Value).toArray bZ meZ cZ H [] 0 0 (rd_Q bZ H [.ref (A 2), .int d] sZ (some (.int (goOn f d)))) (F0 mZ 4 ls []) := by
    intro n
    induction n with
    | zero =>
      intro k hk4 z4_2 ez4_2 ls hl
      obtain rfl : k = 3 := by omega
      refine lv_iload_n hx hb dX0_goodOn_4 rfl (lv_at hl 0 rfl) ?_
      refine lv_iconst (v := 3) hx hb dX0_goodOn_5 (by decide) ?_
      refine lv_icmp_ge (tgt := 30) hx hb dX0_goodOn_6 (by decide) (fun c1 => ?_) (fun c1 => ?_)
      · have d1 := Int32.not_lt.mpr c1
        refine lv_iload_n hx hb dX0_goodOn_30 rfl (lv_at hl 1 rfl) ?_
        exact rd_iret S hr hlk dX0_goodOn_31 (congrArg (fun z => some (Value.int z)) (by subst ez4_2; first | rfl | (simp only [goOn, c1, d1, ne_eq, not_true_eq_false, not_false_eq_true, and_true, true_and, and_false, false_and, or_true, true_or, or_false, false_or, and_self, or_self, decide_eq_true_eq, ↓reduceIte]; done) | (simp [goOn, c1, d1]; done) | (simp only [goOn, c1, d1, ne_eq, not_true_eq_false, not_false_eq_true, and_true, true_and, and_false, false_and, or_true, true_or, or_false, false_or, and_self, or_self, decide_eq_true_eq, ↓reduceIte])))
      · have c1 : ¬ (nI 3 ≤ nI 3) := c1; exact absurd c1 (by first | exact fun h => absurd (Int32.le_refl _) h | exact nI_nlt (by omega) (by omega) | exact nI_ge (by omega) (by omega) | exact fun h => h (nI_lt (by omega) (by omega)) | exact fun h => h (nI_le (by omega) (by omega)) | exact fun h => h (lp_le_cnt _) | exact lp_nle (by omega))
    | succ n ih4 =>
      intro k hk4 z4_2 ez4_2 ls hl
      refine lv_iload_n hx hb dX0_goodOn_4 rfl (lv_at hl 0 rfl) ?_
      refine lv_iconst (v := 3) hx hb dX0_goodOn_5 (by decide) ?_
      refine lv_icmp_ge (tgt := 30) hx hb dX0_goodOn_6 (by decide) (fun c2 => ?_) (fun c2 => ?_)
      · have c2 : nI 3 ≤ nI k := c2; exact absurd c2 (by first | exact fun h => absurd (Int32.le_refl _) h | exact nI_nlt (by omega) (by omega) | exact nI_ge (by omega) (by omega) | exact fun h => h (nI_lt (by omega) (by omega)) | exact fun h => h (nI_le (by omega) (by omega)) | exact fun h => h (lp_le_cnt _) | exact lp_nle (by omega))
      · have d2 := Int32.not_le.mp c2
        refine lv_aload_n hx hb dX0_goodOn_9 rfl (lv_at hl 2 rfl) ?_
        refine lv_iload_n hx hb dX0_goodOn_10 rfl (lv_at hl 0 rfl) ?_
        refine lv_iload_n hx hb dX0_goodOn_11 rfl (lv_at hl 3 rfl) ?_
        refine rd_V (As := [.int (nI k), .int d]) (rest := []) (v := some (.int (b2i (isGd f (nI k) d = true)))) S hG (c_X0_isGood l G A f g H hR (nI k) d) gX0_goodOn_X0_isGood rfl ⟨rfl, rfl⟩ nmX0_isGood ⟨Nat.le_of_ble_eq_true rfl, Nat.le_of_ble_eq_true rfl⟩ (rd_rcv hG.1 (rP_2 hR) rfl) rfl hl.1 rfl (Nat.le_of_ble_eq_true rfl) ⟨Nat.zero_le _, Nat.zero_le _⟩ dX0_goodOn_12 ?_
        refine W.eq (g2 := F0 mZ 15 ls [.int (b2i (isGd f (nI k) d = true))]) rfl ?_
        refine lv_if_eq (tgt := 24) hx hb dX0_goodOn_15 (by decide) (fun c3 => ?_) (fun c3 => ?_)
        · have c3 := b2i_z.mp c3
          refine lv_iinc (v := nI (k + 1)) (lv' := [(3, .int (nI (k + 1))), (2, .int z4_2), (0, .ref (A 2)), (1, .int d)]) hx hb dX0_goodOn_24 hl (k := 0) rfl (nI_inc _) (by decide) rfl (fun ls hl => ?_)
          refine lv_goto (tgt := 4) hx hb dX0_goodOn_27 (by decide) ?_
          exact ih4 (k + 1) (by omega) _ (by subst ez4_2; first | rfl | (simp only [fl, goOn, c2, d2, c3, ne_eq, not_true_eq_false, not_false_eq_true, and_true, true_and, and_false, false_and, or_true, true_or, or_false, false_or, and_self, or_self, decide_eq_true_eq, ↓reduceIte]; done) | (simp [fl, goOn, c2, d2, c3]; done) | (simp only [fl, goOn, c2, d2, c3, ne_eq, not_true_eq_false, not_false_eq_true, and_true, true_and, and_false, false_and, or_true, true_or, or_false, false_or, and_self, or_self, decide_eq_true_eq, ↓reduceIte])) ls (lv_sub hl [0, 1, 2, 3] rfl)
        · have c3 := b2i_nz.mp c3
          refine lv_iload_n hx hb dX0_goodOn_18 rfl (lv_at hl 1 rfl) ?_
          refine lv_iconst (v := 1) hx hb dX0_goodOn_19 (by decide) ?_
          refine lv_iload_n hx hb dX0_goodOn_20 rfl (lv_at hl 0 rfl) ?_
          refine lv_ishl hx hb dX0_goodOn_21 ?_
          refine lv_ior hx hb dX0_goodOn_22 ?_
          refine lv_topi (fun x4 ex4 => ?_)
          refine lv_istore_n (lv' := [(2, .int x4), (3, .int (nI k)), (0, .ref (A 2)), (1, .int d)]) hx hb dX0_goodOn_23 rfl hl (by decide) rfl (fun ls hl => ?_)
          refine lv_iinc (v := nI (k + 1)) (lv' := [(3, .int (nI (k + 1))), (2, .int x4), (0, .ref (A 2)), (1, .int d)]) hx hb dX0_goodOn_24 hl (k := 1) rfl (nI_inc _) (by decide) rfl (fun ls hl => ?_)
          refine lv_goto (tgt := 4) hx hb dX0_goodOn_27 (by decide) ?_
          exact ih4 (k + 1) (by omega) _ (by subst ex4; subst ez4_2; first | rfl | (simp only [fl, goOn, c2, d2, c3, ne_eq, not_true_eq_false, not_false_eq_true, and_true, true_and, and_false, false_and, or_true, true_or, or_false, false_or, and_self, or_self, decide_eq_true_eq, ↓reduceIte]; done) | (simp [fl, goOn, c2, d2, c3]; done) | (simp only [fl, goOn, c2, d2, c3, ne_eq, not_true_eq_false, not_false_eq_true, and_true, true_and, and_false, false_and, or_true, true_or, or_false, false_or, and_self, or_self, decide_eq_true_eq, ↓reduceIte])) ls (lv_sub hl [0, 1, 2, 3] rfl)
  exact loop4 3 0 (by omega) _ (by first | rfl | (simp only [fl, goOn, ne_eq, not_true_eq_false, not_false_eq_true, and_true, true_and, and_false, false_and, or_true, true_or, or_false, false_or, and_self, or_self, decide_eq_true_eq, ↓reduceIte]; done) | (simp [fl, goOn]; done) | (simp only [fl, goOn, ne_eq, not_true_eq_false, not_false_eq_true, and_true, true_and, and_false, false_and, or_true, true_or, or_false, false_or, and_self, or_self, decide_eq_true_eq, ↓reduceIte])) ls (lv_sub hl [0, 1, 2, 3] rfl)
theorem nmX1_heightOn : nmV yX1_heightOn RX1 2 := by decide +kernel
set_option maxHeartbeats 4000000 in
set_option maxRecDepth 100000 in
theorem c_X1_heightOn (l : Launch) (G : GT) (A : Nat → Nat) (f : Nat → Nat → Int32) (g : Nat → Nat) (H : Heap) (hR : RP G A f g H) (p d : Int32) : RdV l G H yX1_heightOn wsX1_heightOn { frames := 1, cells := 0, slots := 0, locals := 21 } [.ref (A 4), .int p, .int d] (some (.int (hOn f p d (g 4)))) := by
  refine rd_of (cc := cX1_heightOn) (maxL := 4) (ret := (some .int)) (by decide) rfl (Nat.le_of_ble_eq_true rfl) ?_
  intro pZ eZ sZ mZ bZ meZ cZ ls S hr hlk hl hH hG
  have S : CallFix pZ mZ cZ cX1_heightOn 4 sZ _ wsX1_heightOn RX1 := S
  have hx := S.1
  have hb := S.2.1
  have hown := S.2.2.2.1
  have hts := S.2.2.2.2
  have hl : lv_has ls 4 [(0, .ref (A 4)), (1, .int p), (2, .int d)] := hl
  have w0 := hts (.fieldLink RX1 26 "MinimaRoom$Amendments" "count" "I") (by decide +kernel)
  have w1 := hts (.fieldLink RX1 14 "MinimaRoom$Amendments" "procedures" "LMinimaRoom$Row;") (by decide +kernel)
  have w2 := hts (.fieldLink RX1 20 "MinimaRoom$Amendments" "froms" "LMinimaRoom$Row;") (by decide +kernel)
  have w3 := hts (.fieldLink RX1 23 "MinimaRoom$Amendments" "heights" "LMinimaRoom$Row;") (by decide +kernel)
  have iX1 : ∀ w ∈ u_ws RX1 TX1 4, w ∈ wsX1_heightOn := by decide +kernel
  have hgb := hR.1
  have hg4 := hgb 4
  refine lv_aload_n hx hb dX1_heightOn_0 rfl (lv_at hl 0 rfl) ?_
  refine rd_get (own := RX1) (x := .int (nI (g 4))) S hG.1 iX1 (rP_4 hR) 3 rfl (by decide) w0 rfl dX1_heightOn_1 ?_
  refine lv_iconst (v := 1) hx hb dX1_heightOn_4 (by decide) ?_
  refine lv_isub hx hb dX1_heightOn_5 ?_
  refine lv_topi (fun x1 ex1 => ?_)
  refine lv_istore_n (lv' := [(3, .int x1), (0, .ref (A 4)), (1, .int p), (2, .int d)]) hx hb dX1_heightOn_6 rfl hl (by decide) rfl (fun ls hl => ?_)
  subst ex1
  have loop7 : ∀ (n : Nat), n ≤ g 4 → hOn f p d (g 4) = hOn f p d n → ∀ (ls : Array Slot), lv_has ls 4 [(3, .int (pd n)), (0, .ref (A 4)), (1, .int p), (2, .int d)] → W pZ l eZ ({ frames := 1, cells := 0, slots := 0, locals := 21 } : Room) sZ mZ ([.ref (A 4), .int p, .int d] : List Value).toArray bZ meZ cZ H [] 0 0 (rd_Q bZ H [.ref (A 4), .int p, .int d] sZ (some (.int (hOn f p d (g 4))))) (F0 mZ 7 ls []) := by
    intro n
    induction n with
    | zero =>
      intro hk7  inv7 ls hl
      have hl : lv_has ls 4 [(3, .int (pd 0)), (0, .ref (A 4)), (1, .int p), (2, .int d)] := hl
      refine lv_iload_n hx hb dX1_heightOn_7 rfl (lv_at hl 0 rfl) ?_
      refine lv_if_lt (tgt := 50) hx hb dX1_heightOn_8 (by decide) (fun c2 => ?_) (fun c2 => ?_)
      · have d2 := Int32.not_le.mpr c2
        refine lv_iconst (v := (-1)) hx hb dX1_heightOn_50 (by decide) ?_
        exact rd_iret S hr hlk dX1_heightOn_51 (congrArg (fun z => some (Value.int z)) (by exact inv7.trans (by first | rfl | (simp only [hOn, c2, d2, ne_eq, not_true_eq_false, not_false_eq_true, and_true, true_and, and_false, false_and, or_true, true_or, or_false, false_or, and_self, or_self, decide_eq_true_eq, ↓reduceIte]; done) | (simp [hOn, c2, d2]; done) | (simp only [hOn, c2, d2, ne_eq, not_true_eq_false, not_false_eq_true, and_true, true_and, and_false, false_and, or_true, true_or, or_false, false_or, and_self, or_self, decide_eq_true_eq, ↓reduceIte]))))
      · exact absurd (by decide) c2
    | succ n ih7 =>
      intro hk7  inv7 ls hl
      rw [pd_s n] at hl
      have hl : lv_has ls 4 [(3, .int (nI n)), (0, .ref (A 4)), (1, .int p), (2, .int d)] := hl
      refine lv_iload_n hx hb dX1_heightOn_7 rfl (lv_at hl 0 rfl) ?_
      refine lv_if_lt (tgt := 50) hx hb dX1_heightOn_8 (by decide) (fun c3 => ?_) (fun c3 => ?_)
      · exact absurd c3 (pd_nn (by omega))
      · have d3 := Int32.not_lt.mp c3
        refine lv_aload_n hx hb dX1_heightOn_11 rfl (lv_at hl 1 rfl) ?_
        refine rd_get (own := RX1) (x := .ref (A 19)) S hG.1 iX1 (rP_4 hR) 0 rfl (by decide) w1 rfl dX1_heightOn_12 ?_
        refine lv_iload_n hx hb dX1_heightOn_15 rfl (lv_at hl 0 rfl) ?_
        refine rd_V (As := [.int (nI n)]) (rest := []) (v := some (.int (rowAt 20 (f 19) (nI n)))) S hG (c_X6_at l G H (A 19) (A 39) 20 (f 19) (by decide) (rP_19 hR) (rP_39 hR) (nI n)) gX1_heightOn_X6_at rfl ⟨rfl, rfl⟩ nmX6_at ⟨Nat.le_of_ble_eq_true rfl, Nat.le_of_ble_eq_true rfl⟩ (rd_rcv hG.1 (rP_19 hR) rfl) rfl hl.1 rfl (Nat.le_of_ble_eq_true rfl) ⟨Nat.zero_le _, Nat.zero_le _⟩ dX1_heightOn_16 ?_
        refine W.eq (g2 := F0 mZ 19 ls [.int (rowAt 20 (f 19) (nI n))]) rfl ?_
        refine lv_iload_n hx hb dX1_heightOn_19 rfl (lv_at hl 2 rfl) ?_
        refine lv_icmp_ne (tgt := 44) hx hb dX1_heightOn_20 (by decide) (fun c4 => ?_) (fun c4 => ?_)
        · refine lv_iinc (v := pd n) (lv' := [(3, .int (pd n)), (0, .ref (A 4)), (1, .int p), (2, .int d)]) hx hb dX1_heightOn_44 hl (k := 0) rfl (pd_i _) (by decide) rfl (fun ls hl => ?_)
          refine lv_goto (tgt := 7) hx hb dX1_heightOn_47 (by decide) ?_
          exact ih7 (by omega) (inv7.trans (by first | rfl | (simp only [fl, hOn, c3, d3, c4, ne_eq, not_true_eq_false, not_false_eq_true, and_true, true_and, and_false, false_and, or_true, true_or, or_false, false_or, and_self, or_self, decide_eq_true_eq, ↓reduceIte]; done) | (simp [fl, hOn, c3, d3, c4]; done) | (simp only [fl, hOn, c3, d3, c4, ne_eq, not_true_eq_false, not_false_eq_true, and_true, true_and, and_false, false_and, or_true, true_or, or_false, false_or, and_self, or_self, decide_eq_true_eq, ↓reduceIte]))) ls (lv_sub hl [0, 1, 2, 3] rfl)
        · refine lv_aload_n hx hb dX1_heightOn_23 rfl (lv_at hl 1 rfl) ?_
          refine rd_get (own := RX1) (x := .ref (A 20)) S hG.1 iX1 (rP_4 hR) 1 rfl (by decide) w2 rfl dX1_heightOn_24 ?_
          refine lv_iload_n hx hb dX1_heightOn_27 rfl (lv_at hl 0 rfl) ?_
          refine rd_V (As := [.int (nI n)]) (rest := []) (v := some (.int (rowAt 20 (f 20) (nI n)))) S hG (c_X6_at l G H (A 20) (A 40) 20 (f 20) (by decide) (rP_20 hR) (rP_40 hR) (nI n)) gX1_heightOn_X6_at rfl ⟨rfl, rfl⟩ nmX6_at ⟨Nat.le_of_ble_eq_true rfl, Nat.le_of_ble_eq_true rfl⟩ (rd_rcv hG.1 (rP_20 hR) rfl) rfl hl.1 rfl (Nat.le_of_ble_eq_true rfl) ⟨Nat.zero_le _, Nat.zero_le _⟩ dX1_heightOn_28 ?_
          refine W.eq (g2 := F0 mZ 31 ls [.int (rowAt 20 (f 20) (nI n))]) rfl ?_
          refine lv_iload_n hx hb dX1_heightOn_31 rfl (lv_at hl 3 rfl) ?_
          refine lv_icmp_gt (tgt := 44) hx hb dX1_heightOn_32 (by decide) (fun c5 => ?_) (fun c5 => ?_)
          · have d5 := Int32.not_le.mpr c5
            refine lv_iinc (v := pd n) (lv' := [(3, .int (pd n)), (0, .ref (A 4)), (1, .int p), (2, .int d)]) hx hb dX1_heightOn_44 hl (k := 0) rfl (pd_i _) (by decide) rfl (fun ls hl => ?_)
            refine lv_goto (tgt := 7) hx hb dX1_heightOn_47 (by decide) ?_
            exact ih7 (by omega) (inv7.trans (by first | rfl | (simp only [fl, hOn, c3, d3, c4, c5, d5, ne_eq, not_true_eq_false, not_false_eq_true, and_true, true_and, and_false, false_and, or_true, true_or, or_false, false_or, and_self, or_self, decide_eq_true_eq, ↓reduceIte]; done) | (simp [fl, hOn, c3, d3, c4, c5, d5]; done) | (simp only [fl, hOn, c3, d3, c4, c5, d5, ne_eq, not_true_eq_false, not_false_eq_true, and_true, true_and, and_false, false_and, or_true, true_or, or_false, false_or, and_self, or_self, decide_eq_true_eq, ↓reduceIte]))) ls (lv_sub hl [0, 1, 2, 3] rfl)
          · have d5 := Int32.not_lt.mp c5
            refine lv_aload_n hx hb dX1_heightOn_35 rfl (lv_at hl 1 rfl) ?_
            refine rd_get (own := RX1) (x := .ref (A 21)) S hG.1 iX1 (rP_4 hR) 2 rfl (by decide) w3 rfl dX1_heightOn_36 ?_
            refine lv_iload_n hx hb dX1_heightOn_39 rfl (lv_at hl 0 rfl) ?_
            refine rd_V (As := [.int (nI n)]) (rest := []) (v := some (.int (rowAt 20 (f 21) (nI n)))) S hG (c_X6_at l G H (A 21) (A 41) 20 (f 21) (by decide) (rP_21 hR) (rP_41 hR) (nI n)) gX1_heightOn_X6_at rfl ⟨rfl, rfl⟩ nmX6_at ⟨Nat.le_of_ble_eq_true rfl, Nat.le_of_ble_eq_true rfl⟩ (rd_rcv hG.1 (rP_21 hR) rfl) rfl hl.1 rfl (Nat.le_of_ble_eq_true rfl) ⟨Nat.zero_le _, Nat.zero_le _⟩ dX1_heightOn_40 ?_
            refine W.eq (g2 := F0 mZ 43 ls [.int (rowAt 20 (f 21) (nI n))]) rfl ?_
            exact rd_iret S hr hlk dX1_heightOn_43 (congrArg (fun z => some (Value.int z)) (by exact inv7.trans (by first | rfl | (simp only [hOn, c3, d3, c4, c5, d5, ne_eq, not_true_eq_false, not_false_eq_true, and_true, true_and, and_false, false_and, or_true, true_or, or_false, false_or, and_self, or_self, decide_eq_true_eq, ↓reduceIte]; done) | (simp [hOn, c3, d3, c4, c5, d5]; done) | (simp only [hOn, c3, d3, c4, c5, d5, ne_eq, not_true_eq_false, not_false_eq_true, and_true, true_and, and_false, false_and, or_true, true_or, or_false, false_or, and_self, or_self, decide_eq_true_eq, ↓reduceIte]))))
  exact loop7 (g 4) (by omega) (by rfl) ls (lv_sub hl [0, 1, 2, 3] rfl)
theorem nmX3_isActive : nmV yX3_isActive RX3 3 := by decide +kernel
set_option maxHeartbeats 4000000 in
set_option maxRecDepth 100000 in
theorem c_X3_isActive (l : Launch) (G : GT) (A : Nat → Nat) (f : Nat → Nat → Int32) (g : Nat → Nat) (H : Heap) (hR : RP G A f g H) (i d kn : Int32) : RdV l G H yX3_isActive wsX3_isActive { frames := 1, cells := 0, slots := 0, locals := 21 } [.ref (A 5), .int i, .int d, .int kn] (some (.int (b2i (isAc f i d kn = true)))) := by
  refine rd_of (cc := cX3_isActive) (maxL := 5) (ret := (some .boolean)) (by decide) rfl (Nat.le_of_ble_eq_true rfl) ?_
  intro pZ eZ sZ mZ bZ meZ cZ ls S hr hlk hl hH hG
  have S : CallFix pZ mZ cZ cX3_isActive 5 sZ _ wsX3_isActive RX3 := S
  have hx := S.1
  have hb := S.2.1
  have hown := S.2.2.2.1
  have hts := S.2.2.2.2
  have hl : lv_has ls 5 [(0, .ref (A 5)), (1, .int i), (2, .int d), (3, .int kn)] := hl
  have w0 := hts (.fieldLink RX3 14 "MinimaRoom$Notices" "kinds" "LMinimaRoom$Row;") (by decide +kernel)
  have w1 := hts (.fieldLink RX3 26 "MinimaRoom$Notices" "froms" "LMinimaRoom$Row;") (by decide +kernel)
  have w2 := hts (.fieldLink RX3 29 "MinimaRoom$Notices" "tos" "LMinimaRoom$Row;") (by decide +kernel)
  have w3 := hts (.fieldLink RX3 32 "MinimaRoom$Notices" "cancels" "LMinimaRoom$Row;") (by decide +kernel)
  have iX3 : ∀ w ∈ u_ws RX3 TX3 7, w ∈ wsX3_isActive := by decide +kernel
  have hgb := hR.1
  refine lv_aload_n hx hb dX3_isActive_0 rfl (lv_at hl 0 rfl) ?_
  refine rd_get (own := RX3) (x := .ref (A 22)) S hG.1 iX3 (rP_5 hR) 0 rfl (by decide) w0 rfl dX3_isActive_1 ?_
  refine lv_iload_n hx hb dX3_isActive_4 rfl (lv_at hl 1 rfl) ?_
  refine rd_V (As := [.int i]) (rest := []) (v := some (.int (rowAt 16 (f 22) i))) S hG (c_X6_at l G H (A 22) (A 42) 16 (f 22) (by decide) (rP_22 hR) (rP_42 hR) i) gX3_isActive_X6_at rfl ⟨rfl, rfl⟩ nmX6_at ⟨Nat.le_of_ble_eq_true rfl, Nat.le_of_ble_eq_true rfl⟩ (rd_rcv hG.1 (rP_22 hR) rfl) rfl hl.1 rfl (Nat.le_of_ble_eq_true rfl) ⟨Nat.zero_le _, Nat.zero_le _⟩ dX3_isActive_5 ?_
  refine W.eq (g2 := F0 mZ 8 ls [.int (rowAt 16 (f 22) i)]) rfl ?_
  refine lv_iconst (v := 3) hx hb dX3_isActive_8 (by decide) ?_
  refine lv_icmp_eq (tgt := 36) hx hb dX3_isActive_9 (by decide) (fun c1 => ?_) (fun c1 => ?_)
  · refine lv_iconst (v := 0) hx hb dX3_isActive_36 (by decide) ?_
    exact rd_zret S hr hlk dX3_isActive_37 (by first | rfl | exact nz_b2i _) (congrArg (fun z => some (Value.int z)) (by first | rfl | (simp only [isAc, b2i, c1, ne_eq, not_true_eq_false, not_false_eq_true, and_true, true_and, and_false, false_and, or_true, true_or, or_false, false_or, and_self, or_self, decide_eq_true_eq, ↓reduceIte]; done) | (simp [isAc, b2i, c1]; done) | (simp only [isAc, b2i, c1, ne_eq, not_true_eq_false, not_false_eq_true, and_true, true_and, and_false, false_and, or_true, true_or, or_false, false_or, and_self, or_self, decide_eq_true_eq, ↓reduceIte])))
  · refine lv_iload_n hx hb dX3_isActive_12 rfl (lv_at hl 2 rfl) ?_
    refine lv_aload_n hx hb dX3_isActive_13 rfl (lv_at hl 0 rfl) ?_
    refine rd_get (own := RX3) (x := .ref (A 25)) S hG.1 iX3 (rP_5 hR) 3 rfl (by decide) w1 rfl dX3_isActive_14 ?_
    refine lv_iload_n hx hb dX3_isActive_17 rfl (lv_at hl 1 rfl) ?_
    refine rd_V (As := [.int i]) (rest := [.int d]) (v := some (.int (rowAt 16 (f 25) i))) S hG (c_X6_at l G H (A 25) (A 45) 16 (f 25) (by decide) (rP_25 hR) (rP_45 hR) i) gX3_isActive_X6_at rfl ⟨rfl, rfl⟩ nmX6_at ⟨Nat.le_of_ble_eq_true rfl, Nat.le_of_ble_eq_true rfl⟩ (rd_rcv hG.1 (rP_25 hR) rfl) rfl hl.1 rfl (Nat.le_of_ble_eq_true rfl) ⟨Nat.zero_le _, Nat.zero_le _⟩ dX3_isActive_18 ?_
    refine W.eq (g2 := F0 mZ 21 ls [.int (rowAt 16 (f 25) i), .int d]) rfl ?_
    refine lv_icmp_lt (tgt := 36) hx hb dX3_isActive_21 (by decide) (fun c2 => ?_) (fun c2 => ?_)
    · have d2 := Int32.not_le.mpr c2
      refine lv_iconst (v := 0) hx hb dX3_isActive_36 (by decide) ?_
      exact rd_zret S hr hlk dX3_isActive_37 (by first | rfl | exact nz_b2i _) (congrArg (fun z => some (Value.int z)) (by first | rfl | (simp only [isAc, b2i, c1, c2, d2, ne_eq, not_true_eq_false, not_false_eq_true, and_true, true_and, and_false, false_and, or_true, true_or, or_false, false_or, and_self, or_self, decide_eq_true_eq, ↓reduceIte]; done) | (simp [isAc, b2i, c1, c2, d2]; done) | (simp only [isAc, b2i, c1, c2, d2, ne_eq, not_true_eq_false, not_false_eq_true, and_true, true_and, and_false, false_and, or_true, true_or, or_false, false_or, and_self, or_self, decide_eq_true_eq, ↓reduceIte])))
    · have d2 := Int32.not_lt.mp c2
      refine lv_iload_n hx hb dX3_isActive_24 rfl (lv_at hl 2 rfl) ?_
      refine lv_aload_n hx hb dX3_isActive_25 rfl (lv_at hl 0 rfl) ?_
      refine rd_get (own := RX3) (x := .ref (A 26)) S hG.1 iX3 (rP_5 hR) 4 rfl (by decide) w2 rfl dX3_isActive_26 ?_
      refine lv_iload_n hx hb dX3_isActive_29 rfl (lv_at hl 1 rfl) ?_
      refine rd_V (As := [.int i]) (rest := [.int d]) (v := some (.int (rowAt 16 (f 26) i))) S hG (c_X6_at l G H (A 26) (A 46) 16 (f 26) (by decide) (rP_26 hR) (rP_46 hR) i) gX3_isActive_X6_at rfl ⟨rfl, rfl⟩ nmX6_at ⟨Nat.le_of_ble_eq_true rfl, Nat.le_of_ble_eq_true rfl⟩ (rd_rcv hG.1 (rP_26 hR) rfl) rfl hl.1 rfl (Nat.le_of_ble_eq_true rfl) ⟨Nat.zero_le _, Nat.zero_le _⟩ dX3_isActive_30 ?_
      refine W.eq (g2 := F0 mZ 33 ls [.int (rowAt 16 (f 26) i), .int d]) rfl ?_
      refine lv_icmp_le (tgt := 38) hx hb dX3_isActive_33 (by decide) (fun c3 => ?_) (fun c3 => ?_)
      · have d3 := Int32.not_lt.mpr c3
        refine lv_aload_n hx hb dX3_isActive_38 rfl (lv_at hl 0 rfl) ?_
        refine rd_get (own := RX3) (x := .ref (A 27)) S hG.1 iX3 (rP_5 hR) 5 rfl (by decide) w3 rfl dX3_isActive_39 ?_
        refine lv_iload_n hx hb dX3_isActive_42 rfl (lv_at hl 1 rfl) ?_
        refine rd_V (As := [.int i]) (rest := []) (v := some (.int (rowAt 16 (f 27) i))) S hG (c_X6_at l G H (A 27) (A 47) 16 (f 27) (by decide) (rP_27 hR) (rP_47 hR) i) gX3_isActive_X6_at rfl ⟨rfl, rfl⟩ nmX6_at ⟨Nat.le_of_ble_eq_true rfl, Nat.le_of_ble_eq_true rfl⟩ (rd_rcv hG.1 (rP_27 hR) rfl) rfl hl.1 rfl (Nat.le_of_ble_eq_true rfl) ⟨Nat.zero_le _, Nat.zero_le _⟩ dX3_isActive_43 ?_
        refine W.eq (g2 := F0 mZ 46 ls [.int (rowAt 16 (f 27) i)]) rfl ?_
        refine lv_topi (fun x4 ex4 => ?_)
        refine lv_istore (lv' := [(4, .int x4), (0, .ref (A 5)), (1, .int i), (2, .int d), (3, .int kn)]) hx hb dX3_isActive_46 hl (by decide) rfl (fun ls hl => ?_)
        refine lv_iload hx hb dX3_isActive_48 (lv_at hl 0 rfl) ?_
        refine lv_iconst (v := (-1)) hx hb dX3_isActive_50 (by decide) ?_
        refine lv_icmp_eq (tgt := 73) hx hb dX3_isActive_51 (by decide) (fun c5 => ?_) (fun c5 => ?_)
        · refine lv_iconst (v := 1) hx hb dX3_isActive_73 (by decide) ?_
          refine lv_goto (tgt := 78) hx hb dX3_isActive_74 (by decide) ?_
          exact rd_zret S hr hlk dX3_isActive_78 (by first | rfl | exact nz_b2i _) (congrArg (fun z => some (Value.int z)) (by subst ex4; first | rfl | (simp only [isAc, b2i, c1, c2, d2, c3, d3, c5, ne_eq, not_true_eq_false, not_false_eq_true, and_true, true_and, and_false, false_and, or_true, true_or, or_false, false_or, and_self, or_self, decide_eq_true_eq, ↓reduceIte]; done) | (simp [isAc, b2i, c1, c2, d2, c3, d3, c5]; done) | (simp only [isAc, b2i, c1, c2, d2, c3, d3, c5, ne_eq, not_true_eq_false, not_false_eq_true, and_true, true_and, and_false, false_and, or_true, true_or, or_false, false_or, and_self, or_self, decide_eq_true_eq, ↓reduceIte])))
        · refine lv_iload hx hb dX3_isActive_54 (lv_at hl 0 rfl) ?_
          refine lv_iload_n hx hb dX3_isActive_56 rfl (lv_at hl 4 rfl) ?_
          refine lv_icmp_ge (tgt := 73) hx hb dX3_isActive_57 (by decide) (fun c6 => ?_) (fun c6 => ?_)
          · have d6 := Int32.not_lt.mpr c6
            refine lv_iconst (v := 1) hx hb dX3_isActive_73 (by decide) ?_
            refine lv_goto (tgt := 78) hx hb dX3_isActive_74 (by decide) ?_
            exact rd_zret S hr hlk dX3_isActive_78 (by first | rfl | exact nz_b2i _) (congrArg (fun z => some (Value.int z)) (by subst ex4; first | rfl | (simp only [isAc, b2i, c1, c2, d2, c3, d3, c5, c6, d6, ne_eq, not_true_eq_false, not_false_eq_true, and_true, true_and, and_false, false_and, or_true, true_or, or_false, false_or, and_self, or_self, decide_eq_true_eq, ↓reduceIte]; done) | (simp [isAc, b2i, c1, c2, d2, c3, d3, c5, c6, d6]; done) | (simp only [isAc, b2i, c1, c2, d2, c3, d3, c5, c6, d6, ne_eq, not_true_eq_false, not_false_eq_true, and_true, true_and, and_false, false_and, or_true, true_or, or_false, false_or, and_self, or_self, decide_eq_true_eq, ↓reduceIte])))
          · have d6 := Int32.not_le.mp c6
            refine lv_aload_n hx hb dX3_isActive_60 rfl (lv_at hl 1 rfl) ?_
            refine rd_get (own := RX3) (x := .ref (A 25)) S hG.1 iX3 (rP_5 hR) 3 rfl (by decide) w1 rfl dX3_isActive_61 ?_
            refine lv_iload hx hb dX3_isActive_64 (lv_at hl 0 rfl) ?_
            refine rd_V (As := [.int x4]) (rest := []) (v := some (.int (rowAt 16 (f 25) x4))) S hG (c_X6_at l G H (A 25) (A 45) 16 (f 25) (by decide) (rP_25 hR) (rP_45 hR) x4) gX3_isActive_X6_at rfl ⟨rfl, rfl⟩ nmX6_at ⟨Nat.le_of_ble_eq_true rfl, Nat.le_of_ble_eq_true rfl⟩ (rd_rcv hG.1 (rP_25 hR) rfl) rfl hl.1 rfl (Nat.le_of_ble_eq_true rfl) ⟨Nat.zero_le _, Nat.zero_le _⟩ dX3_isActive_66 ?_
            refine W.eq (g2 := F0 mZ 69 ls [.int (rowAt 16 (f 25) x4)]) rfl ?_
            refine lv_iload_n hx hb dX3_isActive_69 rfl (lv_at hl 3 rfl) ?_
            refine lv_icmp_le (tgt := 77) hx hb dX3_isActive_70 (by decide) (fun c7 => ?_) (fun c7 => ?_)
            · have d7 := Int32.not_lt.mpr c7
              refine lv_iconst (v := 0) hx hb dX3_isActive_77 (by decide) ?_
              exact rd_zret S hr hlk dX3_isActive_78 (by first | rfl | exact nz_b2i _) (congrArg (fun z => some (Value.int z)) (by subst ex4; first | rfl | (simp only [isAc, b2i, c1, c2, d2, c3, d3, c5, c6, d6, c7, d7, ne_eq, not_true_eq_false, not_false_eq_true, and_true, true_and, and_false, false_and, or_true, true_or, or_false, false_or, and_self, or_self, decide_eq_true_eq, ↓reduceIte]; done) | (simp [isAc, b2i, c1, c2, d2, c3, d3, c5, c6, d6, c7, d7]; done) | (simp only [isAc, b2i, c1, c2, d2, c3, d3, c5, c6, d6, c7, d7, ne_eq, not_true_eq_false, not_false_eq_true, and_true, true_and, and_false, false_and, or_true, true_or, or_false, false_or, and_self, or_self, decide_eq_true_eq, ↓reduceIte])))
            · have d7 := Int32.not_le.mp c7
              refine lv_iconst (v := 1) hx hb dX3_isActive_73 (by decide) ?_
              refine lv_goto (tgt := 78) hx hb dX3_isActive_74 (by decide) ?_
              exact rd_zret S hr hlk dX3_isActive_78 (by first | rfl | exact nz_b2i _) (congrArg (fun z => some (Value.int z)) (by subst ex4; first | rfl | (simp only [isAc, b2i, c1, c2, d2, c3, d3, c5, c6, d6, c7, d7, ne_eq, not_true_eq_false, not_false_eq_true, and_true, true_and, and_false, false_and, or_true, true_or, or_false, false_or, and_self, or_self, decide_eq_true_eq, ↓reduceIte]; done) | (simp [isAc, b2i, c1, c2, d2, c3, d3, c5, c6, d6, c7, d7]; done) | (simp only [isAc, b2i, c1, c2, d2, c3, d3, c5, c6, d6, c7, d7, ne_eq, not_true_eq_false, not_false_eq_true, and_true, true_and, and_false, false_and, or_true, true_or, or_false, false_or, and_self, or_self, decide_eq_true_eq, ↓reduceIte])))
      · have d3 := Int32.not_le.mp c3
        refine lv_iconst (v := 0) hx hb dX3_isActive_36 (by decide) ?_
        exact rd_zret S hr hlk dX3_isActive_37 (by first | rfl | exact nz_b2i _) (congrArg (fun z => some (Value.int z)) (by first | rfl | (simp only [isAc, b2i, c1, c2, d2, c3, d3, ne_eq, not_true_eq_false, not_false_eq_true, and_true, true_and, and_false, false_and, or_true, true_or, or_false, false_or, and_self, or_self, decide_eq_true_eq, ↓reduceIte]; done) | (simp [isAc, b2i, c1, c2, d2, c3, d3]; done) | (simp only [isAc, b2i, c1, c2, d2, c3, d3, ne_eq, not_true_eq_false, not_false_eq_true, and_true, true_and, and_false, false_and, or_true, true_or, or_false, false_or, and_self, or_self, decide_eq_true_eq, ↓reduceIte])))
theorem nmX3_activeOn : nmV yX3_activeOn RX3 1 := by decide +kernel
set_option maxHeartbeats 4000000 in
set_option maxRecDepth 100000 in
theorem c_X3_activeOn (l : Launch) (G : GT) (A : Nat → Nat) (f : Nat → Nat → Int32) (g : Nat → Nat) (H : Heap) (hR : RP G A f g H) (d : Int32) : RdV l G H yX3_activeOn wsX3_activeOn { frames := 2, cells := 0, slots := 0, locals := 45 } [.ref (A 5), .int d] (some (.int (acOn f (g 5) d))) := by
  refine rd_of (cc := cX3_activeOn) (maxL := 4) (ret := (some .int)) (by decide) rfl (Nat.le_of_ble_eq_true rfl) ?_
  intro pZ eZ sZ mZ bZ meZ cZ ls S hr hlk hl hH hG
  have S : CallFix pZ mZ cZ cX3_activeOn 4 sZ _ wsX3_activeOn RX3 := S
  have hx := S.1
  have hb := S.2.1
  have hown := S.2.2.2.1
  have hts := S.2.2.2.2
  have hl : lv_has ls 4 [(0, .ref (A 5)), (1, .int d)] := hl
  have w0 := hts (.fieldLink RX3 35 "MinimaRoom$Notices" "count" "I") (by decide +kernel)
  have iX3 : ∀ w ∈ u_ws RX3 TX3 7, w ∈ wsX3_activeOn := by decide +kernel
  have hgb := hR.1
  have hg5 := hgb 5
  refine lv_iconst (v := 0) hx hb dX3_activeOn_0 (by decide) ?_
  refine lv_istore_n (lv' := [(2, .int 0), (0, .ref (A 5)), (1, .int d)]) hx hb dX3_activeOn_1 rfl hl (by decide) rfl (fun ls hl => ?_)
  refine lv_iconst (v := 0) hx hb dX3_activeOn_2 (by decide) ?_
  refine lv_istore_n (lv' := [(3, .int 0), (2, .int 0), (0, .ref (A 5)), (1, .int d)]) hx hb dX3_activeOn_3 rfl hl (by decide) rfl (fun ls hl => ?_)
  have loop4 : ∀ (n k : Nat), k + n = g 5 → ∀ (z4_2 : Int32), z4_2 = fl k (fun j s => if isAc f (nI j) d (nI (g 5)) then s + 1 else s) 0 → ∀ (ls : Array Slot), lv_has ls 4 [(3, .int (nI k)), (2, .int z4_2), (0, .ref (A 5)), (1, .int d)] → W pZ l eZ ({ frames := 2, cells := 0, slots := 0, locals := 45 } : Room) sZ mZ ([.ref (A 5), .int d] : List Value).toArray bZ meZ cZ H [] 0 0 (rd_Q bZ H [.ref (A 5), .int d] sZ (some (.int (acOn f (g 5) d)))) (F0 mZ 4 ls []) := by
    intro n
    induction n with
    | zero =>
      intro k hk4 z4_2 ez4_2 ls hl
      obtain rfl : k = g 5 := by omega
      refine lv_iload_n hx hb dX3_activeOn_4 rfl (lv_at hl 0 rfl) ?_
      refine lv_aload_n hx hb dX3_activeOn_5 rfl (lv_at hl 2 rfl) ?_
      refine rd_get (own := RX3) (x := .int (nI (g 5))) S hG.1 iX3 (rP_5 hR) 6 rfl (by decide) w0 rfl dX3_activeOn_6 ?_
      refine lv_icmp_ge (tgt := 34) hx hb dX3_activeOn_9 (by decide) (fun c1 => ?_) (fun c1 => ?_)
      · have d1 := Int32.not_lt.mpr c1
        refine lv_iload_n hx hb dX3_activeOn_34 rfl (lv_at hl 1 rfl) ?_
        exact rd_iret S hr hlk dX3_activeOn_35 (congrArg (fun z => some (Value.int z)) (by subst ez4_2; first | rfl | (simp only [acOn, c1, d1, ne_eq, not_true_eq_false, not_false_eq_true, and_true, true_and, and_false, false_and, or_true, true_or, or_false, false_or, and_self, or_self, decide_eq_true_eq, ↓reduceIte]; done) | (simp [acOn, c1, d1]; done) | (simp only [acOn, c1, d1, ne_eq, not_true_eq_false, not_false_eq_true, and_true, true_and, and_false, false_and, or_true, true_or, or_false, false_or, and_self, or_self, decide_eq_true_eq, ↓reduceIte])))
      · exact absurd c1 (by first | exact fun h => absurd (Int32.le_refl _) h | exact nI_nlt (by omega) (by omega) | exact nI_ge (by omega) (by omega) | exact fun h => h (nI_lt (by omega) (by omega)) | exact fun h => h (nI_le (by omega) (by omega)) | exact fun h => h (lp_le_cnt _) | exact lp_nle (by omega))
    | succ n ih4 =>
      intro k hk4 z4_2 ez4_2 ls hl
      refine lv_iload_n hx hb dX3_activeOn_4 rfl (lv_at hl 0 rfl) ?_
      refine lv_aload_n hx hb dX3_activeOn_5 rfl (lv_at hl 2 rfl) ?_
      refine rd_get (own := RX3) (x := .int (nI (g 5))) S hG.1 iX3 (rP_5 hR) 6 rfl (by decide) w0 rfl dX3_activeOn_6 ?_
      refine lv_icmp_ge (tgt := 34) hx hb dX3_activeOn_9 (by decide) (fun c2 => ?_) (fun c2 => ?_)
      · exact absurd c2 (by first | exact fun h => absurd (Int32.le_refl _) h | exact nI_nlt (by omega) (by omega) | exact nI_ge (by omega) (by omega) | exact fun h => h (nI_lt (by omega) (by omega)) | exact fun h => h (nI_le (by omega) (by omega)) | exact fun h => h (lp_le_cnt _) | exact lp_nle (by omega))
      · have d2 := Int32.not_le.mp c2
        refine lv_aload_n hx hb dX3_activeOn_12 rfl (lv_at hl 2 rfl) ?_
        refine lv_iload_n hx hb dX3_activeOn_13 rfl (lv_at hl 0 rfl) ?_
        refine lv_iload_n hx hb dX3_activeOn_14 rfl (lv_at hl 3 rfl) ?_
        refine lv_aload_n hx hb dX3_activeOn_15 rfl (lv_at hl 2 rfl) ?_
        refine rd_get (own := RX3) (x := .int (nI (g 5))) S hG.1 iX3 (rP_5 hR) 6 rfl (by decide) w0 rfl dX3_activeOn_16 ?_
        refine rd_V (As := [.int (nI k), .int d, .int (nI (g 5))]) (rest := []) (v := some (.int (b2i (isAc f (nI k) d (nI (g 5)) = true)))) S hG (c_X3_isActive l G A f g H hR (nI k) d (nI (g 5))) gX3_activeOn_X3_isActive rfl ⟨rfl, rfl⟩ nmX3_isActive ⟨Nat.le_of_ble_eq_true rfl, Nat.le_of_ble_eq_true rfl⟩ (rd_rcv hG.1 (rP_5 hR) rfl) rfl hl.1 rfl (Nat.le_of_ble_eq_true rfl) ⟨Nat.zero_le _, Nat.zero_le _⟩ dX3_activeOn_19 ?_
        refine W.eq (g2 := F0 mZ 22 ls [.int (b2i (isAc f (nI k) d (nI (g 5)) = true))]) rfl ?_
        refine lv_if_eq (tgt := 28) hx hb dX3_activeOn_22 (by decide) (fun c3 => ?_) (fun c3 => ?_)
        · have c3 := b2i_z.mp c3
          refine lv_iinc (v := nI (k + 1)) (lv' := [(3, .int (nI (k + 1))), (2, .int z4_2), (0, .ref (A 5)), (1, .int d)]) hx hb dX3_activeOn_28 hl (k := 0) rfl (nI_inc _) (by decide) rfl (fun ls hl => ?_)
          refine lv_goto (tgt := 4) hx hb dX3_activeOn_31 (by decide) ?_
          exact ih4 (k + 1) (by omega) _ (by subst ez4_2; first | rfl | (simp only [fl, acOn, c2, d2, c3, ne_eq, not_true_eq_false, not_false_eq_true, and_true, true_and, and_false, false_and, or_true, true_or, or_false, false_or, and_self, or_self, decide_eq_true_eq, ↓reduceIte]; done) | (simp [fl, acOn, c2, d2, c3]; done) | (simp only [fl, acOn, c2, d2, c3, ne_eq, not_true_eq_false, not_false_eq_true, and_true, true_and, and_false, false_and, or_true, true_or, or_false, false_or, and_self, or_self, decide_eq_true_eq, ↓reduceIte])) ls (lv_sub hl [0, 1, 2, 3] rfl)
        · have c3 := b2i_nz.mp c3
          refine lv_iinc (v := z4_2 + 1) (lv' := [(2, .int (z4_2 + 1)), (3, .int (nI k)), (0, .ref (A 5)), (1, .int d)]) hx hb dX3_activeOn_25 hl (k := 1) rfl (rfl) (by decide) rfl (fun ls hl => ?_)
          refine lv_iinc (v := nI (k + 1)) (lv' := [(3, .int (nI (k + 1))), (2, .int (z4_2 + 1)), (0, .ref (A 5)), (1, .int d)]) hx hb dX3_activeOn_28 hl (k := 1) rfl (nI_inc _) (by decide) rfl (fun ls hl => ?_)
          refine lv_goto (tgt := 4) hx hb dX3_activeOn_31 (by decide) ?_
          exact ih4 (k + 1) (by omega) _ (by subst ez4_2; first | rfl | (simp only [fl, acOn, c2, d2, c3, ne_eq, not_true_eq_false, not_false_eq_true, and_true, true_and, and_false, false_and, or_true, true_or, or_false, false_or, and_self, or_self, decide_eq_true_eq, ↓reduceIte]; done) | (simp [fl, acOn, c2, d2, c3]; done) | (simp only [fl, acOn, c2, d2, c3, ne_eq, not_true_eq_false, not_false_eq_true, and_true, true_and, and_false, false_and, or_true, true_or, or_false, false_or, and_self, or_self, decide_eq_true_eq, ↓reduceIte])) ls (lv_sub hl [0, 1, 2, 3] rfl)
  exact loop4 (g 5) 0 (by omega) _ (by first | rfl | (simp only [fl, acOn, ne_eq, not_true_eq_false, not_false_eq_true, and_true, true_and, and_false, false_and, or_true, true_or, or_false, false_or, and_self, or_self, decide_eq_true_eq, ↓reduceIte]; done) | (simp [fl, acOn]; done) | (simp only [fl, acOn, ne_eq, not_true_eq_false, not_false_eq_true, and_true, true_and, and_false, false_and, or_true, true_or, or_false, false_or, and_self, or_self, decide_eq_true_eq, ↓reduceIte])) ls (lv_sub hl [0, 1, 2, 3] rfl)
theorem nmX3_applyTo : nmV yX3_applyTo RX3 5 := by decide +kernel
set_option maxHeartbeats 4000000 in
set_option maxRecDepth 100000 in
theorem c_X3_applyTo (l : Launch) (G : GT) (A : Nat → Nat) (f : Nat → Nat → Int32) (g : Nat → Nat) (H : Heap) (hR : RP G A f g H) (ch p a d kn : Int32) : RdV l G H yX3_applyTo wsX3_applyTo { frames := 2, cells := 0, slots := 0, locals := 45 } [.ref (A 5), .int ch, .int p, .int a, .int d, .int kn] (some (.int (apTo f ch p a d kn))) := by
  refine rd_of (cc := cX3_applyTo) (maxL := 10) (ret := (some .int)) (by decide) rfl (Nat.le_of_ble_eq_true rfl) ?_
  intro pZ eZ sZ mZ bZ meZ cZ ls S hr hlk hl hH hG
  have S : CallFix pZ mZ cZ cX3_applyTo 10 sZ _ wsX3_applyTo RX3 := S
  have hx := S.1
  have hb := S.2.1
  have hown := S.2.2.2.1
  have hts := S.2.2.2.2
  have hl : lv_has ls 10 [(0, .ref (A 5)), (1, .int ch), (2, .int p), (3, .int a), (4, .int d), (5, .int kn)] := hl
  have w0 := hts (.fieldLink RX3 20 "MinimaRoom$Notices" "subjects" "LMinimaRoom$Row;") (by decide +kernel)
  have w1 := hts (.fieldLink RX3 14 "MinimaRoom$Notices" "kinds" "LMinimaRoom$Row;") (by decide +kernel)
  have w2 := hts (.fieldLink RX3 23 "MinimaRoom$Notices" "raises" "LMinimaRoom$Row;") (by decide +kernel)
  have iX3 : ∀ w ∈ u_ws RX3 TX3 7, w ∈ wsX3_applyTo := by decide +kernel
  have m_max_54 : [.methodLink RX3 54 Lib.Math.max.name, .static Lib.Math.max.name, .initialized "java/lang/Math", .code Lib.Math.max.name Lib.Math.max.code 2 (some .int)] ⊆ wsX3_applyTo := by decide +kernel
  have hgb := hR.1
  refine lv_iconst (v := 0) hx hb dX3_applyTo_0 (by decide) ?_
  refine lv_istore (lv' := [(6, .int 0), (0, .ref (A 5)), (1, .int ch), (2, .int p), (3, .int a), (4, .int d), (5, .int kn)]) hx hb dX3_applyTo_1 hl (by decide) rfl (fun ls hl => ?_)
  refine lv_iconst (v := 0) hx hb dX3_applyTo_3 (by decide) ?_
  refine lv_istore (lv' := [(7, .int 0), (6, .int 0), (0, .ref (A 5)), (1, .int ch), (2, .int p), (3, .int a), (4, .int d), (5, .int kn)]) hx hb dX3_applyTo_4 hl (by decide) rfl (fun ls hl => ?_)
  by_cases hch : ch = -1
  · refine lv_iload hx hb dX3_applyTo_6 (lv_at hl 0 rfl) ?_
    refine lv_iload hx hb dX3_applyTo_8 (lv_at hl 7 rfl) ?_
    refine lv_icmp_ge (tgt := 115) hx hb dX3_applyTo_10 (by decide) (fun c1 => ?_) (fun c1 => ?_)
    · have d1 := Int32.not_lt.mpr c1
      refine lv_iload_n hx hb dX3_applyTo_115 rfl (lv_at hl 3 rfl) ?_
      refine lv_iconst (v := (-1)) hx hb dX3_applyTo_116 (by decide) ?_
      refine lv_icmp_ne (tgt := 124) hx hb dX3_applyTo_117 (by decide) (fun c2 => ?_) (fun c2 => ?_)
      · first | exact absurd c2 hch | exact absurd hch c2 | exact absurd (Int32.not_lt.mp c2) (Int32.not_le.mpr hch) | exact absurd (Int32.not_lt.mpr c2) (by simp only [Int32.not_lt]; exact hch)
      · refine lv_iconst (v := (-1)) hx hb dX3_applyTo_120 (by decide) ?_
        refine lv_goto (tgt := 128) hx hb dX3_applyTo_121 (by decide) ?_
        exact rd_iret S hr hlk dX3_applyTo_128 (congrArg (fun z => some (Value.int z)) (by first | rfl | (simp only [apTo, apL, hch, c1, d1, c2, ne_eq, not_true_eq_false, not_false_eq_true, and_true, true_and, and_false, false_and, or_true, true_or, or_false, false_or, and_self, or_self, decide_eq_true_eq, ↓reduceIte]; done) | (simp [apTo, apL, hch, c1, d1, c2]; done) | (simp only [apTo, apL, hch, c1, d1, c2, ne_eq, not_true_eq_false, not_false_eq_true, and_true, true_and, and_false, false_and, or_true, true_or, or_false, false_or, and_self, or_self, decide_eq_true_eq, ↓reduceIte])))
    · have d1 := Int32.not_le.mp c1
      refine lv_iload_n hx hb dX3_applyTo_13 rfl (lv_at hl 3 rfl) ?_
      refine lv_iconst (v := (-1)) hx hb dX3_applyTo_14 (by decide) ?_
      refine lv_icmp_eq (tgt := 115) hx hb dX3_applyTo_15 (by decide) (fun c3 => ?_) (fun c3 => ?_)
      · refine lv_iload_n hx hb dX3_applyTo_115 rfl (lv_at hl 3 rfl) ?_
        refine lv_iconst (v := (-1)) hx hb dX3_applyTo_116 (by decide) ?_
        refine lv_icmp_ne (tgt := 124) hx hb dX3_applyTo_117 (by decide) (fun c4 => ?_) (fun c4 => ?_)
        · first | exact absurd c4 hch | exact absurd hch c4 | exact absurd (Int32.not_lt.mp c4) (Int32.not_le.mpr hch) | exact absurd (Int32.not_lt.mpr c4) (by simp only [Int32.not_lt]; exact hch)
        · refine lv_iconst (v := (-1)) hx hb dX3_applyTo_120 (by decide) ?_
          refine lv_goto (tgt := 128) hx hb dX3_applyTo_121 (by decide) ?_
          exact rd_iret S hr hlk dX3_applyTo_128 (congrArg (fun z => some (Value.int z)) (by first | rfl | (simp only [apTo, apL, hch, c1, d1, c3, c4, ne_eq, not_true_eq_false, not_false_eq_true, and_true, true_and, and_false, false_and, or_true, true_or, or_false, false_or, and_self, or_self, decide_eq_true_eq, ↓reduceIte]; done) | (simp [apTo, apL, hch, c1, d1, c3, c4]; done) | (simp only [apTo, apL, hch, c1, d1, c3, c4, ne_eq, not_true_eq_false, not_false_eq_true, and_true, true_and, and_false, false_and, or_true, true_or, or_false, false_or, and_self, or_self, decide_eq_true_eq, ↓reduceIte])))
      · first | exact absurd c3 hch | exact absurd hch c3 | exact absurd (Int32.not_lt.mp c3) (Int32.not_le.mpr hch) | exact absurd (Int32.not_lt.mpr c3) (by simp only [Int32.not_lt]; exact hch)
  · have loop6 : ∀ (n k : Nat), k + n = cnt kn → ∀ (z6_6 : Int32),  apTo f ch p a d kn = apL f ch p a d kn n k z6_6 → ∀ (ls : Array Slot), lv_has ls 10 [(7, .int (nI k)), (6, .int z6_6), (0, .ref (A 5)), (1, .int ch), (2, .int p), (3, .int a), (4, .int d), (5, .int kn)] → W pZ l eZ ({ frames := 2, cells := 0, slots := 0, locals := 45 } : Room) sZ mZ ([.ref (A 5), .int ch, .int p, .int a, .int d, .int kn] : List Value).toArray bZ meZ cZ H [] 0 0 (rd_Q bZ H [.ref (A 5), .int ch, .int p, .int a, .int d, .int kn] sZ (some (.int (apTo f ch p a d kn)))) (F0 mZ 6 ls []) := by
      intro n
      induction n with
      | zero =>
        intro k hk6 z6_6 inv6 ls hl
        obtain rfl : k = cnt kn := by omega
        refine lv_iload hx hb dX3_applyTo_6 (lv_at hl 0 rfl) ?_
        refine lv_iload hx hb dX3_applyTo_8 (lv_at hl 7 rfl) ?_
        refine lv_icmp_ge (tgt := 115) hx hb dX3_applyTo_10 (by decide) (fun c5 => ?_) (fun c5 => ?_)
        · have d5 := Int32.not_lt.mpr c5
          refine lv_iload_n hx hb dX3_applyTo_115 rfl (lv_at hl 3 rfl) ?_
          refine lv_iconst (v := (-1)) hx hb dX3_applyTo_116 (by decide) ?_
          refine lv_icmp_ne (tgt := 124) hx hb dX3_applyTo_117 (by decide) (fun c6 => ?_) (fun c6 => ?_)
          · refine lv_iload_n hx hb dX3_applyTo_124 rfl (lv_at hl 3 rfl) ?_
            refine lv_iload hx hb dX3_applyTo_125 (lv_at hl 1 rfl) ?_
            refine lv_iadd hx hb dX3_applyTo_127 ?_
            exact rd_iret S hr hlk dX3_applyTo_128 (congrArg (fun z => some (Value.int z)) (by exact inv6.trans (by first | rfl | (simp only [apTo, apL, hch, c5, d5, c6, ne_eq, not_true_eq_false, not_false_eq_true, and_true, true_and, and_false, false_and, or_true, true_or, or_false, false_or, and_self, or_self, decide_eq_true_eq, ↓reduceIte]; done) | (simp [apTo, apL, hch, c5, d5, c6]; done) | (simp only [apTo, apL, hch, c5, d5, c6, ne_eq, not_true_eq_false, not_false_eq_true, and_true, true_and, and_false, false_and, or_true, true_or, or_false, false_or, and_self, or_self, decide_eq_true_eq, ↓reduceIte]))))
          · first | exact absurd c6 hch | exact absurd hch c6 | exact absurd (Int32.not_lt.mp c6) (Int32.not_le.mpr hch) | exact absurd (Int32.not_lt.mpr c6) (by simp only [Int32.not_lt]; exact hch)
        · exact absurd c5 (by first | exact fun h => absurd (Int32.le_refl _) h | exact nI_nlt (by omega) (by omega) | exact nI_ge (by omega) (by omega) | exact fun h => h (nI_lt (by omega) (by omega)) | exact fun h => h (nI_le (by omega) (by omega)) | exact fun h => h (lp_le_cnt _) | exact lp_nle (by omega))
      | succ n ih6 =>
        intro k hk6 z6_6 inv6 ls hl
        refine lv_iload hx hb dX3_applyTo_6 (lv_at hl 0 rfl) ?_
        refine lv_iload hx hb dX3_applyTo_8 (lv_at hl 7 rfl) ?_
        refine lv_icmp_ge (tgt := 115) hx hb dX3_applyTo_10 (by decide) (fun c7 => ?_) (fun c7 => ?_)
        · exact absurd c7 (by first | exact fun h => absurd (Int32.le_refl _) h | exact nI_nlt (by omega) (by omega) | exact nI_ge (by omega) (by omega) | exact fun h => h (nI_lt (by omega) (by omega)) | exact fun h => h (nI_le (by omega) (by omega)) | exact fun h => h (lp_le_cnt _) | exact lp_nle (by omega))
        · have d7 := Int32.not_le.mp c7
          refine lv_iload_n hx hb dX3_applyTo_13 rfl (lv_at hl 3 rfl) ?_
          refine lv_iconst (v := (-1)) hx hb dX3_applyTo_14 (by decide) ?_
          refine lv_icmp_eq (tgt := 115) hx hb dX3_applyTo_15 (by decide) (fun c8 => ?_) (fun c8 => ?_)
          · first | exact absurd c8 hch | exact absurd hch c8 | exact absurd (Int32.not_lt.mp c8) (Int32.not_le.mpr hch) | exact absurd (Int32.not_lt.mpr c8) (by simp only [Int32.not_lt]; exact hch)
          · refine lv_aload_n hx hb dX3_applyTo_18 rfl (lv_at hl 2 rfl) ?_
            refine lv_iload hx hb dX3_applyTo_19 (lv_at hl 0 rfl) ?_
            refine lv_iload hx hb dX3_applyTo_21 (lv_at hl 6 rfl) ?_
            refine lv_iload hx hb dX3_applyTo_23 (lv_at hl 7 rfl) ?_
            refine rd_V (As := [.int (nI k), .int d, .int kn]) (rest := []) (v := some (.int (b2i (isAc f (nI k) d kn = true)))) S hG (c_X3_isActive l G A f g H hR (nI k) d kn) gX3_applyTo_X3_isActive rfl ⟨rfl, rfl⟩ nmX3_isActive ⟨Nat.le_of_ble_eq_true rfl, Nat.le_of_ble_eq_true rfl⟩ (rd_rcv hG.1 (rP_5 hR) rfl) rfl hl.1 rfl (Nat.le_of_ble_eq_true rfl) ⟨Nat.zero_le _, Nat.zero_le _⟩ dX3_applyTo_25 ?_
            refine W.eq (g2 := F0 mZ 28 ls [.int (b2i (isAc f (nI k) d kn = true))]) rfl ?_
            refine lv_if_ne (tgt := 34) hx hb dX3_applyTo_28 (by decide) (fun c9 => ?_) (fun c9 => ?_)
            · have c9 := b2i_nz.mp c9
              refine lv_aload_n hx hb dX3_applyTo_34 rfl (lv_at hl 2 rfl) ?_
              refine rd_get (own := RX3) (x := .ref (A 23)) S hG.1 iX3 (rP_5 hR) 1 rfl (by decide) w0 rfl dX3_applyTo_35 ?_
              refine lv_iload hx hb dX3_applyTo_38 (lv_at hl 0 rfl) ?_
              refine rd_V (As := [.int (nI k)]) (rest := []) (v := some (.int (rowAt 16 (f 23) (nI k)))) S hG (c_X6_at l G H (A 23) (A 43) 16 (f 23) (by decide) (rP_23 hR) (rP_43 hR) (nI k)) gX3_applyTo_X6_at rfl ⟨rfl, rfl⟩ nmX6_at ⟨Nat.le_of_ble_eq_true rfl, Nat.le_of_ble_eq_true rfl⟩ (rd_rcv hG.1 (rP_23 hR) rfl) rfl hl.1 rfl (Nat.le_of_ble_eq_true rfl) ⟨Nat.zero_le _, Nat.zero_le _⟩ dX3_applyTo_40 ?_
              refine W.eq (g2 := F0 mZ 43 ls [.int (rowAt 16 (f 23) (nI k))]) rfl ?_
              refine lv_topi (fun x10 ex10 => ?_)
              refine lv_istore (lv' := [(8, .int x10), (7, .int (nI k)), (6, .int z6_6), (0, .ref (A 5)), (1, .int ch), (2, .int p), (3, .int a), (4, .int d), (5, .int kn)]) hx hb dX3_applyTo_43 hl (by decide) rfl (fun ls hl => ?_)
              refine lv_aload_n hx hb dX3_applyTo_45 rfl (lv_at hl 3 rfl) ?_
              refine rd_get (own := RX3) (x := .ref (A 22)) S hG.1 iX3 (rP_5 hR) 0 rfl (by decide) w1 rfl dX3_applyTo_46 ?_
              refine lv_iload hx hb dX3_applyTo_49 (lv_at hl 1 rfl) ?_
              refine rd_V (As := [.int (nI k)]) (rest := []) (v := some (.int (rowAt 16 (f 22) (nI k)))) S hG (c_X6_at l G H (A 22) (A 42) 16 (f 22) (by decide) (rP_22 hR) (rP_42 hR) (nI k)) gX3_applyTo_X6_at rfl ⟨rfl, rfl⟩ nmX6_at ⟨Nat.le_of_ble_eq_true rfl, Nat.le_of_ble_eq_true rfl⟩ (rd_rcv hG.1 (rP_22 hR) rfl) rfl hl.1 rfl (Nat.le_of_ble_eq_true rfl) ⟨Nat.zero_le _, Nat.zero_le _⟩ dX3_applyTo_51 ?_
              refine W.eq (g2 := F0 mZ 54 ls [.int (rowAt 16 (f 22) (nI k))]) rfl ?_
              refine lv_topi (fun x11 ex11 => ?_)
              refine lv_istore (lv' := [(9, .int x11), (8, .int x10), (7, .int (nI k)), (6, .int z6_6), (0, .ref (A 5)), (1, .int ch), (2, .int p), (3, .int a), (4, .int d), (5, .int kn)]) hx hb dX3_applyTo_54 hl (by decide) rfl (fun ls hl => ?_)
              refine lv_iload hx hb dX3_applyTo_56 (lv_at hl 0 rfl) ?_
              refine lv_iconst (v := 1) hx hb dX3_applyTo_58 (by decide) ?_
              refine lv_icmp_ne (tgt := 68) hx hb dX3_applyTo_59 (by decide) (fun c12 => ?_) (fun c12 => ?_)
              · refine lv_iload hx hb dX3_applyTo_68 (lv_at hl 0 rfl) ?_
                refine lv_iconst (v := 2) hx hb dX3_applyTo_70 (by decide) ?_
                refine lv_icmp_ne (tgt := 82) hx hb dX3_applyTo_71 (by decide) (fun c13 => ?_) (fun c13 => ?_)
                · refine lv_iload hx hb dX3_applyTo_82 (lv_at hl 0 rfl) ?_
                  refine lv_if_ne (tgt := 109) hx hb dX3_applyTo_84 (by decide) (fun c14 => ?_) (fun c14 => ?_)
                  · refine lv_iinc (v := nI (k + 1)) (lv' := [(7, .int (nI (k + 1))), (9, .int x11), (8, .int x10), (6, .int z6_6), (0, .ref (A 5)), (1, .int ch), (2, .int p), (3, .int a), (4, .int d), (5, .int kn)]) hx hb dX3_applyTo_109 hl (k := 2) rfl (nI_inc _) (by decide) rfl (fun ls hl => ?_)
                    refine lv_goto (tgt := 6) hx hb dX3_applyTo_112 (by decide) ?_
                    exact ih6 (k + 1) (by omega) _  (inv6.trans (by subst ex11; subst ex10; first | rfl | (simp only [fl, apTo, apL, hch, c7, d7, c8, c9, c12, c13, c14, ne_eq, not_true_eq_false, not_false_eq_true, and_true, true_and, and_false, false_and, or_true, true_or, or_false, false_or, and_self, or_self, decide_eq_true_eq, ↓reduceIte]; done) | (simp [fl, apTo, apL, hch, c7, d7, c8, c9, c12, c13, c14]; done) | (simp only [fl, apTo, apL, hch, c7, d7, c8, c9, c12, c13, c14, ne_eq, not_true_eq_false, not_false_eq_true, and_true, true_and, and_false, false_and, or_true, true_or, or_false, false_or, and_self, or_self, decide_eq_true_eq, ↓reduceIte]))) ls (lv_sub hl [0, 3, 4, 5, 6, 7, 8, 9] rfl)
                  · refine lv_iload hx hb dX3_applyTo_87 (lv_at hl 1 rfl) ?_
                    refine lv_iload_n hx hb dX3_applyTo_89 rfl (lv_at hl 6 rfl) ?_
                    refine lv_icmp_ne (tgt := 109) hx hb dX3_applyTo_90 (by decide) (fun c15 => ?_) (fun c15 => ?_)
                    · refine lv_iinc (v := nI (k + 1)) (lv' := [(7, .int (nI (k + 1))), (9, .int x11), (8, .int x10), (6, .int z6_6), (0, .ref (A 5)), (1, .int ch), (2, .int p), (3, .int a), (4, .int d), (5, .int kn)]) hx hb dX3_applyTo_109 hl (k := 2) rfl (nI_inc _) (by decide) rfl (fun ls hl => ?_)
                      refine lv_goto (tgt := 6) hx hb dX3_applyTo_112 (by decide) ?_
                      exact ih6 (k + 1) (by omega) _  (inv6.trans (by subst ex11; subst ex10; first | rfl | (simp only [fl, apTo, apL, hch, c7, d7, c8, c9, c12, c13, c14, c15, ne_eq, not_true_eq_false, not_false_eq_true, and_true, true_and, and_false, false_and, or_true, true_or, or_false, false_or, and_self, or_self, decide_eq_true_eq, ↓reduceIte]; done) | (simp [fl, apTo, apL, hch, c7, d7, c8, c9, c12, c13, c14, c15]; done) | (simp only [fl, apTo, apL, hch, c7, d7, c8, c9, c12, c13, c14, c15, ne_eq, not_true_eq_false, not_false_eq_true, and_true, true_and, and_false, false_and, or_true, true_or, or_false, false_or, and_self, or_self, decide_eq_true_eq, ↓reduceIte]))) ls (lv_sub hl [0, 3, 4, 5, 6, 7, 8, 9] rfl)
                    · refine lv_iload hx hb dX3_applyTo_93 (lv_at hl 3 rfl) ?_
                      refine lv_aload_n hx hb dX3_applyTo_95 rfl (lv_at hl 4 rfl) ?_
                      refine rd_get (own := RX3) (x := .ref (A 24)) S hG.1 iX3 (rP_5 hR) 2 rfl (by decide) w2 rfl dX3_applyTo_96 ?_
                      refine lv_iload hx hb dX3_applyTo_99 (lv_at hl 2 rfl) ?_
                      refine rd_V (As := [.int (nI k)]) (rest := [.int z6_6]) (v := some (.int (rowAt 16 (f 24) (nI k)))) S hG (c_X6_at l G H (A 24) (A 44) 16 (f 24) (by decide) (rP_24 hR) (rP_44 hR) (nI k)) gX3_applyTo_X6_at rfl ⟨rfl, rfl⟩ nmX6_at ⟨Nat.le_of_ble_eq_true rfl, Nat.le_of_ble_eq_true rfl⟩ (rd_rcv hG.1 (rP_24 hR) rfl) rfl hl.1 rfl (Nat.le_of_ble_eq_true rfl) ⟨Nat.zero_le _, Nat.zero_le _⟩ dX3_applyTo_101 ?_
                      refine W.eq (g2 := F0 mZ 104 ls [.int (rowAt 16 (f 24) (nI k)), .int z6_6]) rfl ?_
                      refine rd_max S hl.1 m_max_54 ⟨Nat.le_of_ble_eq_true rfl, Nat.le_of_ble_eq_true rfl⟩ (Nat.le_of_ble_eq_true rfl) ⟨Nat.zero_le _, Nat.zero_le _⟩ dX3_applyTo_104 ?_
                      refine W.eq (g2 := F0 mZ 107 ls [.int (imax z6_6 (rowAt 16 (f 24) (nI k)))]) rfl ?_
                      refine lv_topi (fun x16 ex16 => ?_)
                      refine lv_istore (lv' := [(6, .int x16), (9, .int x11), (8, .int x10), (7, .int (nI k)), (0, .ref (A 5)), (1, .int ch), (2, .int p), (3, .int a), (4, .int d), (5, .int kn)]) hx hb dX3_applyTo_107 hl (by decide) rfl (fun ls hl => ?_)
                      refine lv_iinc (v := nI (k + 1)) (lv' := [(7, .int (nI (k + 1))), (6, .int x16), (9, .int x11), (8, .int x10), (0, .ref (A 5)), (1, .int ch), (2, .int p), (3, .int a), (4, .int d), (5, .int kn)]) hx hb dX3_applyTo_109 hl (k := 3) rfl (nI_inc _) (by decide) rfl (fun ls hl => ?_)
                      refine lv_goto (tgt := 6) hx hb dX3_applyTo_112 (by decide) ?_
                      exact ih6 (k + 1) (by omega) _  (inv6.trans (by subst ex16; subst ex11; subst ex10; first | rfl | (simp only [fl, apTo, apL, hch, c7, d7, c8, c9, c12, c13, c14, c15, ne_eq, not_true_eq_false, not_false_eq_true, and_true, true_and, and_false, false_and, or_true, true_or, or_false, false_or, and_self, or_self, decide_eq_true_eq, ↓reduceIte]; done) | (simp [fl, apTo, apL, hch, c7, d7, c8, c9, c12, c13, c14, c15]; done) | (simp only [fl, apTo, apL, hch, c7, d7, c8, c9, c12, c13, c14, c15, ne_eq, not_true_eq_false, not_false_eq_true, and_true, true_and, and_false, false_and, or_true, true_or, or_false, false_or, and_self, or_self, decide_eq_true_eq, ↓reduceIte]))) ls (lv_sub hl [0, 1, 4, 5, 6, 7, 8, 9] rfl)
                · refine lv_iload hx hb dX3_applyTo_74 (lv_at hl 1 rfl) ?_
                  refine lv_iload_n hx hb dX3_applyTo_76 rfl (lv_at hl 6 rfl) ?_
                  refine lv_icmp_ne (tgt := 82) hx hb dX3_applyTo_77 (by decide) (fun c17 => ?_) (fun c17 => ?_)
                  · refine lv_iload hx hb dX3_applyTo_82 (lv_at hl 0 rfl) ?_
                    refine lv_if_ne (tgt := 109) hx hb dX3_applyTo_84 (by decide) (fun c18 => ?_) (fun c18 => ?_)
                    · refine lv_iinc (v := nI (k + 1)) (lv' := [(7, .int (nI (k + 1))), (9, .int x11), (8, .int x10), (6, .int z6_6), (0, .ref (A 5)), (1, .int ch), (2, .int p), (3, .int a), (4, .int d), (5, .int kn)]) hx hb dX3_applyTo_109 hl (k := 2) rfl (nI_inc _) (by decide) rfl (fun ls hl => ?_)
                      refine lv_goto (tgt := 6) hx hb dX3_applyTo_112 (by decide) ?_
                      exact ih6 (k + 1) (by omega) _  (inv6.trans (by subst ex11; subst ex10; first | rfl | (simp only [fl, apTo, apL, hch, c7, d7, c8, c9, c12, c13, c17, c18, ne_eq, not_true_eq_false, not_false_eq_true, and_true, true_and, and_false, false_and, or_true, true_or, or_false, false_or, and_self, or_self, decide_eq_true_eq, ↓reduceIte]; done) | (simp [fl, apTo, apL, hch, c7, d7, c8, c9, c12, c13, c17, c18]; done) | (simp only [fl, apTo, apL, hch, c7, d7, c8, c9, c12, c13, c17, c18, ne_eq, not_true_eq_false, not_false_eq_true, and_true, true_and, and_false, false_and, or_true, true_or, or_false, false_or, and_self, or_self, decide_eq_true_eq, ↓reduceIte]))) ls (lv_sub hl [0, 3, 4, 5, 6, 7, 8, 9] rfl)
                    · exact absurd (c13.symm.trans c18) (by decide)
                  · refine lv_iconst (v := (-1)) hx hb dX3_applyTo_80 (by decide) ?_
                    exact rd_iret S hr hlk dX3_applyTo_81 (congrArg (fun z => some (Value.int z)) (by exact inv6.trans (by subst ex11; subst ex10; first | rfl | (simp only [apTo, apL, hch, c7, d7, c8, c9, c12, c13, c17, ne_eq, not_true_eq_false, not_false_eq_true, and_true, true_and, and_false, false_and, or_true, true_or, or_false, false_or, and_self, or_self, decide_eq_true_eq, ↓reduceIte]; done) | (simp [apTo, apL, hch, c7, d7, c8, c9, c12, c13, c17]; done) | (simp only [apTo, apL, hch, c7, d7, c8, c9, c12, c13, c17, ne_eq, not_true_eq_false, not_false_eq_true, and_true, true_and, and_false, false_and, or_true, true_or, or_false, false_or, and_self, or_self, decide_eq_true_eq, ↓reduceIte]))))
              · refine lv_iload hx hb dX3_applyTo_62 (lv_at hl 1 rfl) ?_
                refine lv_iload_n hx hb dX3_applyTo_64 rfl (lv_at hl 7 rfl) ?_
                refine lv_icmp_eq (tgt := 80) hx hb dX3_applyTo_65 (by decide) (fun c19 => ?_) (fun c19 => ?_)
                · refine lv_iconst (v := (-1)) hx hb dX3_applyTo_80 (by decide) ?_
                  exact rd_iret S hr hlk dX3_applyTo_81 (congrArg (fun z => some (Value.int z)) (by exact inv6.trans (by subst ex11; subst ex10; first | rfl | (simp only [apTo, apL, hch, c7, d7, c8, c9, c12, c19, ne_eq, not_true_eq_false, not_false_eq_true, and_true, true_and, and_false, false_and, or_true, true_or, or_false, false_or, and_self, or_self, decide_eq_true_eq, ↓reduceIte]; done) | (simp [apTo, apL, hch, c7, d7, c8, c9, c12, c19]; done) | (simp only [apTo, apL, hch, c7, d7, c8, c9, c12, c19, ne_eq, not_true_eq_false, not_false_eq_true, and_true, true_and, and_false, false_and, or_true, true_or, or_false, false_or, and_self, or_self, decide_eq_true_eq, ↓reduceIte]))))
                · refine lv_iload hx hb dX3_applyTo_68 (lv_at hl 0 rfl) ?_
                  refine lv_iconst (v := 2) hx hb dX3_applyTo_70 (by decide) ?_
                  refine lv_icmp_ne (tgt := 82) hx hb dX3_applyTo_71 (by decide) (fun c20 => ?_) (fun c20 => ?_)
                  · refine lv_iload hx hb dX3_applyTo_82 (lv_at hl 0 rfl) ?_
                    refine lv_if_ne (tgt := 109) hx hb dX3_applyTo_84 (by decide) (fun c21 => ?_) (fun c21 => ?_)
                    · refine lv_iinc (v := nI (k + 1)) (lv' := [(7, .int (nI (k + 1))), (9, .int x11), (8, .int x10), (6, .int z6_6), (0, .ref (A 5)), (1, .int ch), (2, .int p), (3, .int a), (4, .int d), (5, .int kn)]) hx hb dX3_applyTo_109 hl (k := 2) rfl (nI_inc _) (by decide) rfl (fun ls hl => ?_)
                      refine lv_goto (tgt := 6) hx hb dX3_applyTo_112 (by decide) ?_
                      exact ih6 (k + 1) (by omega) _  (inv6.trans (by subst ex11; subst ex10; first | rfl | (simp only [fl, apTo, apL, hch, c7, d7, c8, c9, c12, c19, c20, c21, ne_eq, not_true_eq_false, not_false_eq_true, and_true, true_and, and_false, false_and, or_true, true_or, or_false, false_or, and_self, or_self, decide_eq_true_eq, ↓reduceIte]; done) | (simp [fl, apTo, apL, hch, c7, d7, c8, c9, c12, c19, c20, c21]; done) | (simp only [fl, apTo, apL, hch, c7, d7, c8, c9, c12, c19, c20, c21, ne_eq, not_true_eq_false, not_false_eq_true, and_true, true_and, and_false, false_and, or_true, true_or, or_false, false_or, and_self, or_self, decide_eq_true_eq, ↓reduceIte]))) ls (lv_sub hl [0, 3, 4, 5, 6, 7, 8, 9] rfl)
                    · exact absurd (c12.symm.trans c21) (by decide)
                  · exact absurd (c12.symm.trans c20) (by decide)
            · have c9 := b2i_z.mp c9
              refine lv_goto (tgt := 109) hx hb dX3_applyTo_31 (by decide) ?_
              refine lv_iinc (v := nI (k + 1)) (lv' := [(7, .int (nI (k + 1))), (6, .int z6_6), (0, .ref (A 5)), (1, .int ch), (2, .int p), (3, .int a), (4, .int d), (5, .int kn)]) hx hb dX3_applyTo_109 hl (k := 0) rfl (nI_inc _) (by decide) rfl (fun ls hl => ?_)
              refine lv_goto (tgt := 6) hx hb dX3_applyTo_112 (by decide) ?_
              exact ih6 (k + 1) (by omega) _  (inv6.trans (by first | rfl | (simp only [fl, apTo, apL, hch, c7, d7, c8, c9, ne_eq, not_true_eq_false, not_false_eq_true, and_true, true_and, and_false, false_and, or_true, true_or, or_false, false_or, and_self, or_self, decide_eq_true_eq, ↓reduceIte]; done) | (simp [fl, apTo, apL, hch, c7, d7, c8, c9]; done) | (simp only [fl, apTo, apL, hch, c7, d7, c8, c9, ne_eq, not_true_eq_false, not_false_eq_true, and_true, true_and, and_false, false_and, or_true, true_or, or_false, false_or, and_self, or_self, decide_eq_true_eq, ↓reduceIte]))) ls (lv_sub hl [0, 1, 2, 3, 4, 5, 6, 7] rfl)
    exact loop6 (cnt kn) 0 (by omega) _ (by simp only [apTo, if_neg hch]) ls (lv_sub hl [0, 1, 2, 3, 4, 5, 6, 7] rfl)
theorem nmX7_kindOf : nmV yX7_kindOf RX7 1 := by decide +kernel
set_option maxHeartbeats 4000000 in
set_option maxRecDepth 100000 in
theorem c_X7_kindOf (l : Launch) (G : GT) (A : Nat → Nat) (f : Nat → Nat → Int32) (g : Nat → Nat) (H : Heap) (hR : RP G A f g H) (p : Int32) : RdV l G H yX7_kindOf wsX7_kindOf { frames := 1, cells := 0, slots := 0, locals := 21 } [.ref (A 0), .int p] (some (.int (kiOf f p))) := by
  refine rd_of (cc := cX7_kindOf) (maxL := 2) (ret := (some .int)) (by decide) rfl (Nat.le_of_ble_eq_true rfl) ?_
  intro pZ eZ sZ mZ bZ meZ cZ ls S hr hlk hl hH hG
  have S : CallFix pZ mZ cZ cX7_kindOf 2 sZ _ wsX7_kindOf RX7 := S
  have hx := S.1
  have hb := S.2.1
  have hown := S.2.2.2.1
  have hts := S.2.2.2.2
  have hl : lv_has ls 2 [(0, .ref (A 0)), (1, .int p)] := hl
  have w0 := hts (.fieldLink RX7 19 "MinimaRoom" "aids" "LMinimaRoom$Aids;") (by decide +kernel)
  have w1 := hts (.fieldLink RX7 26 "MinimaRoom" "procedures" "LMinimaRoom$Procedures;") (by decide +kernel)
  have iX7 : ∀ w ∈ u_ws RX7 TX7 8, w ∈ wsX7_kindOf := by decide +kernel
  have iX0 : ∀ w ∈ u_ws RX0 TX0 2, w ∈ wsX7_kindOf := by decide +kernel
  have iX5 : ∀ w ∈ u_ws RX5 TX5 3, w ∈ wsX7_kindOf := by decide +kernel
  have hgb := hR.1
  refine lv_aload_n hx hb dX7_kindOf_0 rfl (lv_at hl 0 rfl) ?_
  refine rd_get (own := RX7) (x := .ref (A 2)) S hG.1 iX7 (rP_0 hR) 1 rfl (by decide) w0 rfl dX7_kindOf_1 ?_
  refine rd_getN (own := RX7) (x := .ref (A 15)) S hG.1 iX0 (rP_2 hR) 0 rfl (by decide) nest_115 rfl dX7_kindOf_4 ?_
  refine lv_aload_n hx hb dX7_kindOf_7 rfl (lv_at hl 0 rfl) ?_
  refine rd_get (own := RX7) (x := .ref (A 3)) S hG.1 iX7 (rP_0 hR) 2 rfl (by decide) w1 rfl dX7_kindOf_8 ?_
  refine rd_getN (own := RX7) (x := .ref (A 17)) S hG.1 iX5 (rP_3 hR) 0 rfl (by decide) nest_286 rfl dX7_kindOf_11 ?_
  refine lv_iload_n hx hb dX7_kindOf_14 rfl (lv_at hl 1 rfl) ?_
  refine rd_V (As := [.int p]) (rest := [.ref (A 15)]) (v := some (.int (rowAt 4 (f 17) p))) S hG (c_X6_at l G H (A 17) (A 37) 4 (f 17) (by decide) (rP_17 hR) (rP_37 hR) p) gX7_kindOf_X6_at rfl ⟨rfl, rfl⟩ nmX6_at ⟨Nat.le_of_ble_eq_true rfl, Nat.le_of_ble_eq_true rfl⟩ (rd_rcv hG.1 (rP_17 hR) rfl) rfl hl.1 rfl (Nat.le_of_ble_eq_true rfl) ⟨Nat.zero_le _, Nat.zero_le _⟩ dX7_kindOf_15 ?_
  refine W.eq (g2 := F0 mZ 18 ls [.int (rowAt 4 (f 17) p), .ref (A 15)]) rfl ?_
  refine rd_V (As := [.int (rowAt 4 (f 17) p)]) (rest := []) (v := some (.int (rowAt 3 (f 15) (rowAt 4 (f 17) p)))) S hG (c_X6_at l G H (A 15) (A 35) 3 (f 15) (by decide) (rP_15 hR) (rP_35 hR) (rowAt 4 (f 17) p)) gX7_kindOf_X6_at rfl ⟨rfl, rfl⟩ nmX6_at ⟨Nat.le_of_ble_eq_true rfl, Nat.le_of_ble_eq_true rfl⟩ (rd_rcv hG.1 (rP_15 hR) rfl) rfl hl.1 rfl (Nat.le_of_ble_eq_true rfl) ⟨Nat.zero_le _, Nat.zero_le _⟩ dX7_kindOf_18 ?_
  refine W.eq (g2 := F0 mZ 21 ls [.int (rowAt 3 (f 15) (rowAt 4 (f 17) p))]) rfl ?_
  exact rd_iret S hr hlk dX7_kindOf_21 (congrArg (fun z => some (Value.int z)) (by first | rfl | (simp only [kiOf, aidOf, ne_eq, not_true_eq_false, not_false_eq_true, and_true, true_and, and_false, false_and, or_true, true_or, or_false, false_or, and_self, or_self, decide_eq_true_eq, ↓reduceIte]; done) | (simp [kiOf, aidOf]; done) | (simp only [kiOf, aidOf, ne_eq, not_true_eq_false, not_false_eq_true, and_true, true_and, and_false, false_and, or_true, true_or, or_false, false_or, and_self, or_self, decide_eq_true_eq, ↓reduceIte])))
theorem nmX7_leastHeight : nmV yX7_leastHeight RX7 3 := by decide +kernel
set_option maxHeartbeats 4000000 in
set_option maxRecDepth 100000 in
theorem c_X7_leastHeight (l : Launch) (G : GT) (A : Nat → Nat) (f : Nat → Nat → Int32) (g : Nat → Nat) (H : Heap) (hR : RP G A f g H) (p d w : Int32) : RdV l G H yX7_leastHeight wsX7_leastHeight { frames := 2, cells := 0, slots := 0, locals := 47 } [.ref (A 0), .int p, .int d, .int w] (some (.int (lH f g p d w))) := by
  refine rd_of (cc := cX7_leastHeight) (maxL := 9) (ret := (some .int)) (by decide) rfl (Nat.le_of_ble_eq_true rfl) ?_
  intro pZ eZ sZ mZ bZ meZ cZ ls S hr hlk hl hH hG
  have S : CallFix pZ mZ cZ cX7_leastHeight 9 sZ _ wsX7_leastHeight RX7 := S
  have hx := S.1
  have hb := S.2.1
  have hown := S.2.2.2.1
  have hts := S.2.2.2.2
  have hl : lv_has ls 9 [(0, .ref (A 0)), (1, .int p), (2, .int d), (3, .int w)] := hl
  have w0 := hts (.fieldLink RX7 26 "MinimaRoom" "procedures" "LMinimaRoom$Procedures;") (by decide +kernel)
  have w1 := hts (.fieldLink RX7 10 "MinimaRoom" "obstacles" "LMinimaRoom$Obstacles;") (by decide +kernel)
  have iX7 : ∀ w ∈ u_ws RX7 TX7 8, w ∈ wsX7_leastHeight := by decide +kernel
  have iX5 : ∀ w ∈ u_ws RX5 TX5 3, w ∈ wsX7_leastHeight := by decide +kernel
  have iX4 : ∀ w ∈ u_ws RX4 TX4 6, w ∈ wsX7_leastHeight := by decide +kernel
  have m_max_98 : [.methodLink RX7 98 Lib.Math.max.name, .static Lib.Math.max.name, .initialized "java/lang/Math", .code Lib.Math.max.name Lib.Math.max.code 2 (some .int)] ⊆ wsX7_leastHeight := by decide +kernel
  have hgb := hR.1
  have hg1 := hgb 1
  refine lv_aload_n hx hb dX7_leastHeight_0 rfl (lv_at hl 0 rfl) ?_
  refine lv_iload_n hx hb dX7_leastHeight_1 rfl (lv_at hl 1 rfl) ?_
  refine rd_V (As := [.int p]) (rest := []) (v := some (.int (kiOf f p))) S hG (c_X7_kindOf l G A f g H hR p) gX7_leastHeight_X7_kindOf rfl ⟨rfl, rfl⟩ nmX7_kindOf ⟨Nat.le_of_ble_eq_true rfl, Nat.le_of_ble_eq_true rfl⟩ (rd_rcv hG.1 (rP_0 hR) rfl) rfl hl.1 rfl (Nat.le_of_ble_eq_true rfl) ⟨Nat.zero_le _, Nat.zero_le _⟩ dX7_leastHeight_2 ?_
  refine W.eq (g2 := F0 mZ 5 ls [.int (kiOf f p)]) rfl ?_
  refine lv_topi (fun x1 ex1 => ?_)
  refine lv_istore (lv' := [(4, .int x1), (0, .ref (A 0)), (1, .int p), (2, .int d), (3, .int w)]) hx hb dX7_leastHeight_5 hl (by decide) rfl (fun ls hl => ?_)
  refine lv_aload_n hx hb dX7_leastHeight_7 rfl (lv_at hl 1 rfl) ?_
  refine rd_get (own := RX7) (x := .ref (A 3)) S hG.1 iX7 (rP_0 hR) 2 rfl (by decide) w0 rfl dX7_leastHeight_8 ?_
  refine rd_getN (own := RX7) (x := .ref (A 18)) S hG.1 iX5 (rP_3 hR) 1 rfl (by decide) nest_270 rfl dX7_leastHeight_11 ?_
  refine lv_iload_n hx hb dX7_leastHeight_14 rfl (lv_at hl 2 rfl) ?_
  refine rd_V (As := [.int p]) (rest := []) (v := some (.int (rowAt 4 (f 18) p))) S hG (c_X6_at l G H (A 18) (A 38) 4 (f 18) (by decide) (rP_18 hR) (rP_38 hR) p) gX7_leastHeight_X6_at rfl ⟨rfl, rfl⟩ nmX6_at ⟨Nat.le_of_ble_eq_true rfl, Nat.le_of_ble_eq_true rfl⟩ (rd_rcv hG.1 (rP_18 hR) rfl) rfl hl.1 rfl (Nat.le_of_ble_eq_true rfl) ⟨Nat.zero_le _, Nat.zero_le _⟩ dX7_leastHeight_15 ?_
  refine W.eq (g2 := F0 mZ 18 ls [.int (rowAt 4 (f 18) p)]) rfl ?_
  refine lv_topi (fun x2 ex2 => ?_)
  refine lv_istore (lv' := [(5, .int x2), (4, .int x1), (0, .ref (A 0)), (1, .int p), (2, .int d), (3, .int w)]) hx hb dX7_leastHeight_18 hl (by decide) rfl (fun ls hl => ?_)
  refine lv_iload hx hb dX7_leastHeight_20 (lv_at hl 1 rfl) ?_
  refine rd_S (As := [.int x1]) (rest := []) (v := some (.int (baOf x1))) S hG (c_X7_baseOf l G H x1) gX7_leastHeight_X7_baseOf rfl ⟨rfl, rfl⟩ nmX7_baseOf ⟨Nat.le_of_ble_eq_true rfl, Nat.le_of_ble_eq_true rfl⟩ rfl hl.1 rfl (Nat.le_of_ble_eq_true rfl) ⟨Nat.zero_le _, Nat.zero_le _⟩ dX7_leastHeight_22 ?_
  refine W.eq (g2 := F0 mZ 25 ls [.int (baOf x1)]) rfl ?_
  refine lv_topi (fun x3 ex3 => ?_)
  refine lv_istore (lv' := [(6, .int x3), (5, .int x2), (4, .int x1), (0, .ref (A 0)), (1, .int p), (2, .int d), (3, .int w)]) hx hb dX7_leastHeight_25 hl (by decide) rfl (fun ls hl => ?_)
  refine lv_iconst (v := 0) hx hb dX7_leastHeight_27 (by decide) ?_
  refine lv_istore (lv' := [(7, .int 0), (6, .int x3), (5, .int x2), (4, .int x1), (0, .ref (A 0)), (1, .int p), (2, .int d), (3, .int w)]) hx hb dX7_leastHeight_28 hl (by decide) rfl (fun ls hl => ?_)
  have loop30 : ∀ (n k : Nat), k + n = g 1 → ∀ (z30_6 : Int32), z30_6 = fl k (fun j h => if ¬ nI j = w ∧ isTh f (nI j) d then imax h (ndOf f p (nI j)) else h) (baOf (kiOf f p)) → ∀ (ls : Array Slot), lv_has ls 9 [(7, .int (nI k)), (6, .int z30_6), (0, .ref (A 0)), (1, .int p), (2, .int d), (3, .int w), (4, .int x1), (5, .int x2)] → W pZ l eZ ({ frames := 2, cells := 0, slots := 0, locals := 47 } : Room) sZ mZ ([.ref (A 0), .int p, .int d, .int w] : List Value).toArray bZ meZ cZ H [] 0 0 (rd_Q bZ H [.ref (A 0), .int p, .int d, .int w] sZ (some (.int (lH f g p d w)))) (F0 mZ 30 ls []) := by
    intro n
    induction n with
    | zero =>
      intro k hk30 z30_6 ez30_6 ls hl
      obtain rfl : k = g 1 := by omega
      refine lv_iload hx hb dX7_leastHeight_30 (lv_at hl 0 rfl) ?_
      refine lv_aload_n hx hb dX7_leastHeight_32 rfl (lv_at hl 2 rfl) ?_
      refine rd_get (own := RX7) (x := .ref (A 1)) S hG.1 iX7 (rP_0 hR) 0 rfl (by decide) w1 rfl dX7_leastHeight_33 ?_
      refine rd_getN (own := RX7) (x := .int (nI (g 1))) S hG.1 iX4 (rP_1 hR) 5 rfl (by decide) nest_66 rfl dX7_leastHeight_36 ?_
      refine lv_icmp_ge (tgt := 121) hx hb dX7_leastHeight_39 (by decide) (fun c4 => ?_) (fun c4 => ?_)
      · have d4 := Int32.not_lt.mpr c4
        refine lv_iload hx hb dX7_leastHeight_121 (lv_at hl 1 rfl) ?_
        refine rd_S (As := [.int z30_6]) (rest := []) (v := some (.int (rUp z30_6))) S hG (c_X7_roundedUp l G H z30_6) gX7_leastHeight_X7_roundedUp rfl ⟨rfl, rfl⟩ nmX7_roundedUp ⟨Nat.le_of_ble_eq_true rfl, Nat.le_of_ble_eq_true rfl⟩ rfl hl.1 rfl (Nat.le_of_ble_eq_true rfl) ⟨Nat.zero_le _, Nat.zero_le _⟩ dX7_leastHeight_123 ?_
        refine W.eq (g2 := F0 mZ 126 ls [.int (rUp z30_6)]) rfl ?_
        exact rd_iret S hr hlk dX7_leastHeight_126 (congrArg (fun z => some (Value.int z)) (by subst ez30_6; subst ex3; subst ex2; subst ex1; first | rfl | (simp only [lH, c4, d4, ne_eq, not_true_eq_false, not_false_eq_true, and_true, true_and, and_false, false_and, or_true, true_or, or_false, false_or, and_self, or_self, decide_eq_true_eq, ↓reduceIte]; done) | (simp [lH, c4, d4]; done) | (simp only [lH, c4, d4, ne_eq, not_true_eq_false, not_false_eq_true, and_true, true_and, and_false, false_and, or_true, true_or, or_false, false_or, and_self, or_self, decide_eq_true_eq, ↓reduceIte])))
      · exact absurd c4 (by first | exact fun h => absurd (Int32.le_refl _) h | exact nI_nlt (by omega) (by omega) | exact nI_ge (by omega) (by omega) | exact fun h => h (nI_lt (by omega) (by omega)) | exact fun h => h (nI_le (by omega) (by omega)) | exact fun h => h (lp_le_cnt _) | exact lp_nle (by omega))
    | succ n ih30 =>
      intro k hk30 z30_6 ez30_6 ls hl
      refine lv_iload hx hb dX7_leastHeight_30 (lv_at hl 0 rfl) ?_
      refine lv_aload_n hx hb dX7_leastHeight_32 rfl (lv_at hl 2 rfl) ?_
      refine rd_get (own := RX7) (x := .ref (A 1)) S hG.1 iX7 (rP_0 hR) 0 rfl (by decide) w1 rfl dX7_leastHeight_33 ?_
      refine rd_getN (own := RX7) (x := .int (nI (g 1))) S hG.1 iX4 (rP_1 hR) 5 rfl (by decide) nest_66 rfl dX7_leastHeight_36 ?_
      refine lv_icmp_ge (tgt := 121) hx hb dX7_leastHeight_39 (by decide) (fun c5 => ?_) (fun c5 => ?_)
      · exact absurd c5 (by first | exact fun h => absurd (Int32.le_refl _) h | exact nI_nlt (by omega) (by omega) | exact nI_ge (by omega) (by omega) | exact fun h => h (nI_lt (by omega) (by omega)) | exact fun h => h (nI_le (by omega) (by omega)) | exact fun h => h (lp_le_cnt _) | exact lp_nle (by omega))
      · have d5 := Int32.not_le.mp c5
        refine lv_iload hx hb dX7_leastHeight_42 (lv_at hl 0 rfl) ?_
        refine lv_iload_n hx hb dX7_leastHeight_44 rfl (lv_at hl 5 rfl) ?_
        refine lv_icmp_eq (tgt := 115) hx hb dX7_leastHeight_45 (by decide) (fun c6 => ?_) (fun c6 => ?_)
        · refine lv_iinc (v := nI (k + 1)) (lv' := [(7, .int (nI (k + 1))), (6, .int z30_6), (0, .ref (A 0)), (1, .int p), (2, .int d), (3, .int w), (4, .int x1), (5, .int x2)]) hx hb dX7_leastHeight_115 hl (k := 0) rfl (nI_inc _) (by decide) rfl (fun ls hl => ?_)
          refine lv_goto (tgt := 30) hx hb dX7_leastHeight_118 (by decide) ?_
          exact ih30 (k + 1) (by omega) _ (by subst ez30_6; subst ex3; subst ex2; subst ex1; first | rfl | (simp only [fl, lH, c5, d5, c6, ne_eq, not_true_eq_false, not_false_eq_true, and_true, true_and, and_false, false_and, or_true, true_or, or_false, false_or, and_self, or_self, decide_eq_true_eq, ↓reduceIte]; done) | (simp [fl, lH, c5, d5, c6]; done) | (simp only [fl, lH, c5, d5, c6, ne_eq, not_true_eq_false, not_false_eq_true, and_true, true_and, and_false, false_and, or_true, true_or, or_false, false_or, and_self, or_self, decide_eq_true_eq, ↓reduceIte])) ls (lv_sub hl [0, 1, 2, 3, 4, 5, 6, 7] rfl)
        · refine lv_aload_n hx hb dX7_leastHeight_48 rfl (lv_at hl 2 rfl) ?_
          refine rd_get (own := RX7) (x := .ref (A 1)) S hG.1 iX7 (rP_0 hR) 0 rfl (by decide) w1 rfl dX7_leastHeight_49 ?_
          refine lv_iload hx hb dX7_leastHeight_52 (lv_at hl 0 rfl) ?_
          refine lv_iload_n hx hb dX7_leastHeight_54 rfl (lv_at hl 4 rfl) ?_
          refine rd_V (As := [.int (nI k), .int d]) (rest := []) (v := some (.int (b2i (isTh f (nI k) d = true)))) S hG (c_X4_isThere l G A f g H hR (nI k) d) gX7_leastHeight_X4_isThere rfl ⟨rfl, rfl⟩ nmX4_isThere ⟨Nat.le_of_ble_eq_true rfl, Nat.le_of_ble_eq_true rfl⟩ (rd_rcv hG.1 (rP_1 hR) rfl) rfl hl.1 rfl (Nat.le_of_ble_eq_true rfl) ⟨Nat.zero_le _, Nat.zero_le _⟩ dX7_leastHeight_55 ?_
          refine W.eq (g2 := F0 mZ 58 ls [.int (b2i (isTh f (nI k) d = true))]) rfl ?_
          refine lv_if_eq (tgt := 115) hx hb dX7_leastHeight_58 (by decide) (fun c7 => ?_) (fun c7 => ?_)
          · have c7 := b2i_z.mp c7
            refine lv_iinc (v := nI (k + 1)) (lv' := [(7, .int (nI (k + 1))), (6, .int z30_6), (0, .ref (A 0)), (1, .int p), (2, .int d), (3, .int w), (4, .int x1), (5, .int x2)]) hx hb dX7_leastHeight_115 hl (k := 0) rfl (nI_inc _) (by decide) rfl (fun ls hl => ?_)
            refine lv_goto (tgt := 30) hx hb dX7_leastHeight_118 (by decide) ?_
            exact ih30 (k + 1) (by omega) _ (by subst ez30_6; subst ex3; subst ex2; subst ex1; first | rfl | (simp only [fl, lH, c5, d5, c6, c7, ne_eq, not_true_eq_false, not_false_eq_true, and_true, true_and, and_false, false_and, or_true, true_or, or_false, false_or, and_self, or_self, decide_eq_true_eq, ↓reduceIte]; done) | (simp [fl, lH, c5, d5, c6, c7]; done) | (simp only [fl, lH, c5, d5, c6, c7, ne_eq, not_true_eq_false, not_false_eq_true, and_true, true_and, and_false, false_and, or_true, true_or, or_false, false_or, and_self, or_self, decide_eq_true_eq, ↓reduceIte])) ls (lv_sub hl [0, 1, 2, 3, 4, 5, 6, 7] rfl)
          · have c7 := b2i_nz.mp c7
            refine lv_aload_n hx hb dX7_leastHeight_61 rfl (lv_at hl 2 rfl) ?_
            refine rd_get (own := RX7) (x := .ref (A 1)) S hG.1 iX7 (rP_0 hR) 0 rfl (by decide) w1 rfl dX7_leastHeight_62 ?_
            refine rd_getN (own := RX7) (x := .ref (A 10)) S hG.1 iX4 (rP_1 hR) 0 rfl (by decide) nest_178 rfl dX7_leastHeight_65 ?_
            refine lv_iload hx hb dX7_leastHeight_68 (lv_at hl 0 rfl) ?_
            refine rd_V (As := [.int (nI k)]) (rest := []) (v := some (.int (rowAt 12 (f 10) (nI k)))) S hG (c_X6_at l G H (A 10) (A 30) 12 (f 10) (by decide) (rP_10 hR) (rP_30 hR) (nI k)) gX7_leastHeight_X6_at rfl ⟨rfl, rfl⟩ nmX6_at ⟨Nat.le_of_ble_eq_true rfl, Nat.le_of_ble_eq_true rfl⟩ (rd_rcv hG.1 (rP_10 hR) rfl) rfl hl.1 rfl (Nat.le_of_ble_eq_true rfl) ⟨Nat.zero_le _, Nat.zero_le _⟩ dX7_leastHeight_70 ?_
            refine W.eq (g2 := F0 mZ 73 ls [.int (rowAt 12 (f 10) (nI k))]) rfl ?_
            refine lv_aload_n hx hb dX7_leastHeight_73 rfl (lv_at hl 2 rfl) ?_
            refine rd_get (own := RX7) (x := .ref (A 1)) S hG.1 iX7 (rP_0 hR) 0 rfl (by decide) w1 rfl dX7_leastHeight_74 ?_
            refine rd_getN (own := RX7) (x := .ref (A 11)) S hG.1 iX4 (rP_1 hR) 1 rfl (by decide) nest_181 rfl dX7_leastHeight_77 ?_
            refine lv_iload hx hb dX7_leastHeight_80 (lv_at hl 0 rfl) ?_
            refine rd_V (As := [.int (nI k)]) (rest := [.int (rowAt 12 (f 10) (nI k))]) (v := some (.int (rowAt 12 (f 11) (nI k)))) S hG (c_X6_at l G H (A 11) (A 31) 12 (f 11) (by decide) (rP_11 hR) (rP_31 hR) (nI k)) gX7_leastHeight_X6_at rfl ⟨rfl, rfl⟩ nmX6_at ⟨Nat.le_of_ble_eq_true rfl, Nat.le_of_ble_eq_true rfl⟩ (rd_rcv hG.1 (rP_11 hR) rfl) rfl hl.1 rfl (Nat.le_of_ble_eq_true rfl) ⟨Nat.zero_le _, Nat.zero_le _⟩ dX7_leastHeight_82 ?_
            refine W.eq (g2 := F0 mZ 85 ls [.int (rowAt 12 (f 11) (nI k)), .int (rowAt 12 (f 10) (nI k))]) rfl ?_
            refine lv_aload_n hx hb dX7_leastHeight_85 rfl (lv_at hl 2 rfl) ?_
            refine rd_get (own := RX7) (x := .ref (A 1)) S hG.1 iX7 (rP_0 hR) 0 rfl (by decide) w1 rfl dX7_leastHeight_86 ?_
            refine rd_getN (own := RX7) (x := .ref (A 12)) S hG.1 iX4 (rP_1 hR) 2 rfl (by decide) nest_184 rfl dX7_leastHeight_89 ?_
            refine lv_iload hx hb dX7_leastHeight_92 (lv_at hl 0 rfl) ?_
            refine rd_V (As := [.int (nI k)]) (rest := [.int (rowAt 12 (f 11) (nI k)), .int (rowAt 12 (f 10) (nI k))]) (v := some (.int (rowAt 12 (f 12) (nI k)))) S hG (c_X6_at l G H (A 12) (A 32) 12 (f 12) (by decide) (rP_12 hR) (rP_32 hR) (nI k)) gX7_leastHeight_X6_at rfl ⟨rfl, rfl⟩ nmX6_at ⟨Nat.le_of_ble_eq_true rfl, Nat.le_of_ble_eq_true rfl⟩ (rd_rcv hG.1 (rP_12 hR) rfl) rfl hl.1 rfl (Nat.le_of_ble_eq_true rfl) ⟨Nat.zero_le _, Nat.zero_le _⟩ dX7_leastHeight_94 ?_
            refine W.eq (g2 := F0 mZ 97 ls [.int (rowAt 12 (f 12) (nI k)), .int (rowAt 12 (f 11) (nI k)), .int (rowAt 12 (f 10) (nI k))]) rfl ?_
            refine lv_iload hx hb dX7_leastHeight_97 (lv_at hl 6 rfl) ?_
            refine lv_iload hx hb dX7_leastHeight_99 (lv_at hl 7 rfl) ?_
            refine rd_S (As := [.int (rowAt 12 (f 10) (nI k)), .int (rowAt 12 (f 11) (nI k)), .int (rowAt 12 (f 12) (nI k)), .int x1, .int x2]) (rest := []) (v := some (.int (need (rowAt 12 (f 10) (nI k)) (rowAt 12 (f 11) (nI k)) (rowAt 12 (f 12) (nI k)) x1 x2))) S hG (c_X7_needOf l G H (rowAt 12 (f 10) (nI k)) (rowAt 12 (f 11) (nI k)) (rowAt 12 (f 12) (nI k)) x1 x2) gX7_leastHeight_X7_needOf rfl ⟨rfl, rfl⟩ nmX7_needOf ⟨Nat.le_of_ble_eq_true rfl, Nat.le_of_ble_eq_true rfl⟩ rfl hl.1 rfl (Nat.le_of_ble_eq_true rfl) ⟨Nat.zero_le _, Nat.zero_le _⟩ dX7_leastHeight_101 ?_
            refine W.eq (g2 := F0 mZ 104 ls [.int (need (rowAt 12 (f 10) (nI k)) (rowAt 12 (f 11) (nI k)) (rowAt 12 (f 12) (nI k)) x1 x2)]) rfl ?_
            refine lv_topi (fun x8 ex8 => ?_)
            refine lv_istore (lv' := [(8, .int x8), (7, .int (nI k)), (6, .int z30_6), (0, .ref (A 0)), (1, .int p), (2, .int d), (3, .int w), (4, .int x1), (5, .int x2)]) hx hb dX7_leastHeight_104 hl (by decide) rfl (fun ls hl => ?_)
            refine lv_iload hx hb dX7_leastHeight_106 (lv_at hl 2 rfl) ?_
            refine lv_iload hx hb dX7_leastHeight_108 (lv_at hl 0 rfl) ?_
            refine rd_max S hl.1 m_max_98 ⟨Nat.le_of_ble_eq_true rfl, Nat.le_of_ble_eq_true rfl⟩ (Nat.le_of_ble_eq_true rfl) ⟨Nat.zero_le _, Nat.zero_le _⟩ dX7_leastHeight_110 ?_
            refine W.eq (g2 := F0 mZ 113 ls [.int (imax z30_6 x8)]) rfl ?_
            refine lv_topi (fun x9 ex9 => ?_)
            refine lv_istore (lv' := [(6, .int x9), (8, .int x8), (7, .int (nI k)), (0, .ref (A 0)), (1, .int p), (2, .int d), (3, .int w), (4, .int x1), (5, .int x2)]) hx hb dX7_leastHeight_113 hl (by decide) rfl (fun ls hl => ?_)
            refine lv_iinc (v := nI (k + 1)) (lv' := [(7, .int (nI (k + 1))), (6, .int x9), (8, .int x8), (0, .ref (A 0)), (1, .int p), (2, .int d), (3, .int w), (4, .int x1), (5, .int x2)]) hx hb dX7_leastHeight_115 hl (k := 2) rfl (nI_inc _) (by decide) rfl (fun ls hl => ?_)
            refine lv_goto (tgt := 30) hx hb dX7_leastHeight_118 (by decide) ?_
            exact ih30 (k + 1) (by omega) _ (by subst ex9; subst ex8; subst ez30_6; subst ex3; subst ex2; subst ex1; first | rfl | (simp only [fl, lH, c5, d5, c6, c7, ne_eq, not_true_eq_false, not_false_eq_true, and_true, true_and, and_false, false_and, or_true, true_or, or_false, false_or, and_self, or_self, decide_eq_true_eq, ↓reduceIte]; done) | (simp [fl, lH, c5, d5, c6, c7]; done) | (simp only [fl, lH, c5, d5, c6, c7, ne_eq, not_true_eq_false, not_false_eq_true, and_true, true_and, and_false, false_and, or_true, true_or, or_false, false_or, and_self, or_self, decide_eq_true_eq, ↓reduceIte])) ls (lv_sub hl [0, 1, 3, 4, 5, 6, 7, 8] rfl)
  exact loop30 (g 1) 0 (by omega) _ (by subst ex3; subst ex2; subst ex1; first | rfl | (simp only [fl, lH, ne_eq, not_true_eq_false, not_false_eq_true, and_true, true_and, and_false, false_and, or_true, true_or, or_false, false_or, and_self, or_self, decide_eq_true_eq, ↓reduceIte]; done) | (simp [fl, lH]; done) | (simp only [fl, lH, ne_eq, not_true_eq_false, not_false_eq_true, and_true, true_and, and_false, false_and, or_true, true_or, or_false, false_or, and_self, or_self, decide_eq_true_eq, ↓reduceIte])) ls (lv_sub hl [0, 1, 4, 5, 6, 7, 3, 2] rfl)
theorem nmX7_heightInForce : nmV yX7_heightInForce RX7 2 := by decide +kernel
set_option maxHeartbeats 4000000 in
set_option maxRecDepth 100000 in
theorem c_X7_heightInForce (l : Launch) (G : GT) (A : Nat → Nat) (f : Nat → Nat → Int32) (g : Nat → Nat) (H : Heap) (hR : RP G A f g H) (p d : Int32) : RdV l G H yX7_heightInForce wsX7_heightInForce { frames := 3, cells := 0, slots := 0, locals := 74 } [.ref (A 0), .int p, .int d] (some (.int (hIF f g p d))) := by
  refine rd_of (cc := cX7_heightInForce) (maxL := 5) (ret := (some .int)) (by decide) rfl (Nat.le_of_ble_eq_true rfl) ?_
  intro pZ eZ sZ mZ bZ meZ cZ ls S hr hlk hl hH hG
  have S : CallFix pZ mZ cZ cX7_heightInForce 5 sZ _ wsX7_heightInForce RX7 := S
  have hx := S.1
  have hb := S.2.1
  have hown := S.2.2.2.1
  have hts := S.2.2.2.2
  have hl : lv_has ls 5 [(0, .ref (A 0)), (1, .int p), (2, .int d)] := hl
  have w0 := hts (.fieldLink RX7 26 "MinimaRoom" "procedures" "LMinimaRoom$Procedures;") (by decide +kernel)
  have w1 := hts (.fieldLink RX7 19 "MinimaRoom" "aids" "LMinimaRoom$Aids;") (by decide +kernel)
  have w2 := hts (.fieldLink RX7 33 "MinimaRoom" "amendments" "LMinimaRoom$Amendments;") (by decide +kernel)
  have w3 := hts (.fieldLink RX7 40 "MinimaRoom" "notices" "LMinimaRoom$Notices;") (by decide +kernel)
  have iX7 : ∀ w ∈ u_ws RX7 TX7 8, w ∈ wsX7_heightInForce := by decide +kernel
  have iX5 : ∀ w ∈ u_ws RX5 TX5 3, w ∈ wsX7_heightInForce := by decide +kernel
  have iX3 : ∀ w ∈ u_ws RX3 TX3 7, w ∈ wsX7_heightInForce := by decide +kernel
  have hgb := hR.1
  refine lv_aload_n hx hb dX7_heightInForce_0 rfl (lv_at hl 0 rfl) ?_
  refine rd_get (own := RX7) (x := .ref (A 3)) S hG.1 iX7 (rP_0 hR) 2 rfl (by decide) w0 rfl dX7_heightInForce_1 ?_
  refine rd_getN (own := RX7) (x := .ref (A 17)) S hG.1 iX5 (rP_3 hR) 0 rfl (by decide) nest_286 rfl dX7_heightInForce_4 ?_
  refine lv_iload_n hx hb dX7_heightInForce_7 rfl (lv_at hl 1 rfl) ?_
  refine rd_V (As := [.int p]) (rest := []) (v := some (.int (rowAt 4 (f 17) p))) S hG (c_X6_at l G H (A 17) (A 37) 4 (f 17) (by decide) (rP_17 hR) (rP_37 hR) p) gX7_heightInForce_X6_at rfl ⟨rfl, rfl⟩ nmX6_at ⟨Nat.le_of_ble_eq_true rfl, Nat.le_of_ble_eq_true rfl⟩ (rd_rcv hG.1 (rP_17 hR) rfl) rfl hl.1 rfl (Nat.le_of_ble_eq_true rfl) ⟨Nat.zero_le _, Nat.zero_le _⟩ dX7_heightInForce_8 ?_
  refine W.eq (g2 := F0 mZ 11 ls [.int (rowAt 4 (f 17) p)]) rfl ?_
  refine lv_topi (fun x1 ex1 => ?_)
  refine lv_istore_n (lv' := [(3, .int x1), (0, .ref (A 0)), (1, .int p), (2, .int d)]) hx hb dX7_heightInForce_11 rfl hl (by decide) rfl (fun ls hl => ?_)
  refine lv_aload_n hx hb dX7_heightInForce_12 rfl (lv_at hl 1 rfl) ?_
  refine rd_get (own := RX7) (x := .ref (A 2)) S hG.1 iX7 (rP_0 hR) 1 rfl (by decide) w1 rfl dX7_heightInForce_13 ?_
  refine lv_iload_n hx hb dX7_heightInForce_16 rfl (lv_at hl 0 rfl) ?_
  refine lv_iload_n hx hb dX7_heightInForce_17 rfl (lv_at hl 3 rfl) ?_
  refine rd_V (As := [.int x1, .int d]) (rest := []) (v := some (.int (b2i (isGd f x1 d = true)))) S hG (c_X0_isGood l G A f g H hR x1 d) gX7_heightInForce_X0_isGood rfl ⟨rfl, rfl⟩ nmX0_isGood ⟨Nat.le_of_ble_eq_true rfl, Nat.le_of_ble_eq_true rfl⟩ (rd_rcv hG.1 (rP_2 hR) rfl) rfl hl.1 rfl (Nat.le_of_ble_eq_true rfl) ⟨Nat.zero_le _, Nat.zero_le _⟩ dX7_heightInForce_18 ?_
  refine W.eq (g2 := F0 mZ 21 ls [.int (b2i (isGd f x1 d = true))]) rfl ?_
  refine lv_if_ne (tgt := 26) hx hb dX7_heightInForce_21 (by decide) (fun c2 => ?_) (fun c2 => ?_)
  · have c2 := b2i_nz.mp c2
    refine lv_aload_n hx hb dX7_heightInForce_26 rfl (lv_at hl 1 rfl) ?_
    refine rd_get (own := RX7) (x := .ref (A 4)) S hG.1 iX7 (rP_0 hR) 3 rfl (by decide) w2 rfl dX7_heightInForce_27 ?_
    refine lv_iload_n hx hb dX7_heightInForce_30 rfl (lv_at hl 2 rfl) ?_
    refine lv_iload_n hx hb dX7_heightInForce_31 rfl (lv_at hl 3 rfl) ?_
    refine rd_V (As := [.int p, .int d]) (rest := []) (v := some (.int (hOn f p d (g 4)))) S hG (c_X1_heightOn l G A f g H hR p d) gX7_heightInForce_X1_heightOn rfl ⟨rfl, rfl⟩ nmX1_heightOn ⟨Nat.le_of_ble_eq_true rfl, Nat.le_of_ble_eq_true rfl⟩ (rd_rcv hG.1 (rP_4 hR) rfl) rfl hl.1 rfl (Nat.le_of_ble_eq_true rfl) ⟨Nat.zero_le _, Nat.zero_le _⟩ dX7_heightInForce_32 ?_
    refine W.eq (g2 := F0 mZ 35 ls [.int (hOn f p d (g 4))]) rfl ?_
    refine lv_topi (fun x3 ex3 => ?_)
    refine lv_istore (lv' := [(4, .int x3), (3, .int x1), (0, .ref (A 0)), (1, .int p), (2, .int d)]) hx hb dX7_heightInForce_35 hl (by decide) rfl (fun ls hl => ?_)
    refine lv_aload_n hx hb dX7_heightInForce_37 rfl (lv_at hl 2 rfl) ?_
    refine rd_get (own := RX7) (x := .ref (A 5)) S hG.1 iX7 (rP_0 hR) 4 rfl (by decide) w3 rfl dX7_heightInForce_38 ?_
    refine lv_iload hx hb dX7_heightInForce_41 (lv_at hl 0 rfl) ?_
    refine lv_iload_n hx hb dX7_heightInForce_43 rfl (lv_at hl 3 rfl) ?_
    refine lv_iload_n hx hb dX7_heightInForce_44 rfl (lv_at hl 1 rfl) ?_
    refine lv_iload_n hx hb dX7_heightInForce_45 rfl (lv_at hl 4 rfl) ?_
    refine lv_aload_n hx hb dX7_heightInForce_46 rfl (lv_at hl 2 rfl) ?_
    refine rd_get (own := RX7) (x := .ref (A 5)) S hG.1 iX7 (rP_0 hR) 4 rfl (by decide) w3 rfl dX7_heightInForce_47 ?_
    refine rd_getN (own := RX7) (x := .int (nI (g 5))) S hG.1 iX3 (rP_5 hR) 6 rfl (by decide) nest_177 rfl dX7_heightInForce_50 ?_
    refine rd_V (As := [.int x3, .int p, .int x1, .int d, .int (nI (g 5))]) (rest := []) (v := some (.int (apTo f x3 p x1 d (nI (g 5))))) S hG (c_X3_applyTo l G A f g H hR x3 p x1 d (nI (g 5))) gX7_heightInForce_X3_applyTo rfl ⟨rfl, rfl⟩ nmX3_applyTo ⟨Nat.le_of_ble_eq_true rfl, Nat.le_of_ble_eq_true rfl⟩ (rd_rcv hG.1 (rP_5 hR) rfl) rfl hl.1 rfl (Nat.le_of_ble_eq_true rfl) ⟨Nat.zero_le _, Nat.zero_le _⟩ dX7_heightInForce_53 ?_
    refine W.eq (g2 := F0 mZ 56 ls [.int (apTo f x3 p x1 d (nI (g 5)))]) rfl ?_
    exact rd_iret S hr hlk dX7_heightInForce_56 (congrArg (fun z => some (Value.int z)) (by subst ex3; subst ex1; first | rfl | (simp only [hIF, c2, ne_eq, not_true_eq_false, not_false_eq_true, and_true, true_and, and_false, false_and, or_true, true_or, or_false, false_or, and_self, or_self, decide_eq_true_eq, ↓reduceIte]; done) | (simp [hIF, c2]; done) | (simp only [hIF, c2, ne_eq, not_true_eq_false, not_false_eq_true, and_true, true_and, and_false, false_and, or_true, true_or, or_false, false_or, and_self, or_self, decide_eq_true_eq, ↓reduceIte])))
  · have c2 := b2i_z.mp c2
    refine lv_iconst (v := (-1)) hx hb dX7_heightInForce_24 (by decide) ?_
    exact rd_iret S hr hlk dX7_heightInForce_25 (congrArg (fun z => some (Value.int z)) (by subst ex1; first | rfl | (simp only [hIF, c2, ne_eq, not_true_eq_false, not_false_eq_true, and_true, true_and, and_false, false_and, or_true, true_or, or_false, false_or, and_self, or_self, decide_eq_true_eq, ↓reduceIte]; done) | (simp [hIF, c2]; done) | (simp only [hIF, c2, ne_eq, not_true_eq_false, not_false_eq_true, and_true, true_and, and_false, false_and, or_true, true_or, or_false, false_or, and_self, or_self, decide_eq_true_eq, ↓reduceIte])))
theorem nmX7_heightBelieved : nmV yX7_heightBelieved RX7 3 := by decide +kernel
set_option maxHeartbeats 4000000 in
set_option maxRecDepth 100000 in
theorem c_X7_heightBelieved (l : Launch) (G : GT) (A : Nat → Nat) (f : Nat → Nat → Int32) (g : Nat → Nat) (H : Heap) (hR : RP G A f g H) (cr p d : Int32) : RdV l G H yX7_heightBelieved wsX7_heightBelieved { frames := 3, cells := 0, slots := 0, locals := 74 } [.ref (A 0), .int cr, .int p, .int d] (some (.int (hBl f g cr p d))) := by
  refine rd_of (cc := cX7_heightBelieved) (maxL := 6) (ret := (some .int)) (by decide) rfl (Nat.le_of_ble_eq_true rfl) ?_
  intro pZ eZ sZ mZ bZ meZ cZ ls S hr hlk hl hH hG
  have S : CallFix pZ mZ cZ cX7_heightBelieved 6 sZ _ wsX7_heightBelieved RX7 := S
  have hx := S.1
  have hb := S.2.1
  have hown := S.2.2.2.1
  have hts := S.2.2.2.2
  have hl : lv_has ls 6 [(0, .ref (A 0)), (1, .int cr), (2, .int p), (3, .int d)] := hl
  have w0 := hts (.fieldLink RX7 47 "MinimaRoom" "crews" "LMinimaRoom$Crews;") (by decide +kernel)
  have w1 := hts (.fieldLink RX7 33 "MinimaRoom" "amendments" "LMinimaRoom$Amendments;") (by decide +kernel)
  have w2 := hts (.fieldLink RX7 40 "MinimaRoom" "notices" "LMinimaRoom$Notices;") (by decide +kernel)
  have w3 := hts (.fieldLink RX7 26 "MinimaRoom" "procedures" "LMinimaRoom$Procedures;") (by decide +kernel)
  have iX7 : ∀ w ∈ u_ws RX7 TX7 8, w ∈ wsX7_heightBelieved := by decide +kernel
  have iX2 : ∀ w ∈ u_ws RX2 TX2 2, w ∈ wsX7_heightBelieved := by decide +kernel
  have iX5 : ∀ w ∈ u_ws RX5 TX5 3, w ∈ wsX7_heightBelieved := by decide +kernel
  have hgb := hR.1
  refine lv_aload_n hx hb dX7_heightBelieved_0 rfl (lv_at hl 0 rfl) ?_
  refine rd_get (own := RX7) (x := .ref (A 6)) S hG.1 iX7 (rP_0 hR) 5 rfl (by decide) w0 rfl dX7_heightBelieved_1 ?_
  refine rd_getN (own := RX7) (x := .ref (A 28)) S hG.1 iX2 (rP_6 hR) 0 rfl (by decide) nest_171 rfl dX7_heightBelieved_4 ?_
  refine lv_iload_n hx hb dX7_heightBelieved_7 rfl (lv_at hl 1 rfl) ?_
  refine rd_V (As := [.int cr]) (rest := []) (v := some (.int (rowAt 4 (f 28) cr))) S hG (c_X6_at l G H (A 28) (A 48) 4 (f 28) (by decide) (rP_28 hR) (rP_48 hR) cr) gX7_heightBelieved_X6_at rfl ⟨rfl, rfl⟩ nmX6_at ⟨Nat.le_of_ble_eq_true rfl, Nat.le_of_ble_eq_true rfl⟩ (rd_rcv hG.1 (rP_28 hR) rfl) rfl hl.1 rfl (Nat.le_of_ble_eq_true rfl) ⟨Nat.zero_le _, Nat.zero_le _⟩ dX7_heightBelieved_8 ?_
  refine W.eq (g2 := F0 mZ 11 ls [.int (rowAt 4 (f 28) cr)]) rfl ?_
  refine lv_topi (fun x1 ex1 => ?_)
  refine lv_istore (lv' := [(4, .int x1), (0, .ref (A 0)), (1, .int cr), (2, .int p), (3, .int d)]) hx hb dX7_heightBelieved_11 hl (by decide) rfl (fun ls hl => ?_)
  refine lv_iload hx hb dX7_heightBelieved_13 (lv_at hl 0 rfl) ?_
  refine lv_iconst (v := (-1)) hx hb dX7_heightBelieved_15 (by decide) ?_
  refine lv_icmp_ne (tgt := 21) hx hb dX7_heightBelieved_16 (by decide) (fun c2 => ?_) (fun c2 => ?_)
  · refine lv_aload_n hx hb dX7_heightBelieved_21 rfl (lv_at hl 1 rfl) ?_
    refine rd_get (own := RX7) (x := .ref (A 4)) S hG.1 iX7 (rP_0 hR) 3 rfl (by decide) w1 rfl dX7_heightBelieved_22 ?_
    refine lv_iload_n hx hb dX7_heightBelieved_25 rfl (lv_at hl 3 rfl) ?_
    refine lv_iload hx hb dX7_heightBelieved_26 (lv_at hl 0 rfl) ?_
    refine rd_V (As := [.int p, .int x1]) (rest := []) (v := some (.int (hOn f p x1 (g 4)))) S hG (c_X1_heightOn l G A f g H hR p x1) gX7_heightBelieved_X1_heightOn rfl ⟨rfl, rfl⟩ nmX1_heightOn ⟨Nat.le_of_ble_eq_true rfl, Nat.le_of_ble_eq_true rfl⟩ (rd_rcv hG.1 (rP_4 hR) rfl) rfl hl.1 rfl (Nat.le_of_ble_eq_true rfl) ⟨Nat.zero_le _, Nat.zero_le _⟩ dX7_heightBelieved_28 ?_
    refine W.eq (g2 := F0 mZ 31 ls [.int (hOn f p x1 (g 4))]) rfl ?_
    refine lv_topi (fun x3 ex3 => ?_)
    refine lv_istore (lv' := [(5, .int x3), (4, .int x1), (0, .ref (A 0)), (1, .int cr), (2, .int p), (3, .int d)]) hx hb dX7_heightBelieved_31 hl (by decide) rfl (fun ls hl => ?_)
    refine lv_aload_n hx hb dX7_heightBelieved_33 rfl (lv_at hl 2 rfl) ?_
    refine rd_get (own := RX7) (x := .ref (A 5)) S hG.1 iX7 (rP_0 hR) 4 rfl (by decide) w2 rfl dX7_heightBelieved_34 ?_
    refine lv_iload hx hb dX7_heightBelieved_37 (lv_at hl 0 rfl) ?_
    refine lv_iload_n hx hb dX7_heightBelieved_39 rfl (lv_at hl 4 rfl) ?_
    refine lv_aload_n hx hb dX7_heightBelieved_40 rfl (lv_at hl 2 rfl) ?_
    refine rd_get (own := RX7) (x := .ref (A 3)) S hG.1 iX7 (rP_0 hR) 2 rfl (by decide) w3 rfl dX7_heightBelieved_41 ?_
    refine rd_getN (own := RX7) (x := .ref (A 17)) S hG.1 iX5 (rP_3 hR) 0 rfl (by decide) nest_286 rfl dX7_heightBelieved_44 ?_
    refine lv_iload_n hx hb dX7_heightBelieved_47 rfl (lv_at hl 4 rfl) ?_
    refine rd_V (As := [.int p]) (rest := [.int p, .int x3, .ref (A 5)]) (v := some (.int (rowAt 4 (f 17) p))) S hG (c_X6_at l G H (A 17) (A 37) 4 (f 17) (by decide) (rP_17 hR) (rP_37 hR) p) gX7_heightBelieved_X6_at rfl ⟨rfl, rfl⟩ nmX6_at ⟨Nat.le_of_ble_eq_true rfl, Nat.le_of_ble_eq_true rfl⟩ (rd_rcv hG.1 (rP_17 hR) rfl) rfl hl.1 rfl (Nat.le_of_ble_eq_true rfl) ⟨Nat.zero_le _, Nat.zero_le _⟩ dX7_heightBelieved_48 ?_
    refine W.eq (g2 := F0 mZ 51 ls [.int (rowAt 4 (f 17) p), .int p, .int x3, .ref (A 5)]) rfl ?_
    refine lv_iload_n hx hb dX7_heightBelieved_51 rfl (lv_at hl 5 rfl) ?_
    refine lv_aload_n hx hb dX7_heightBelieved_52 rfl (lv_at hl 2 rfl) ?_
    refine rd_get (own := RX7) (x := .ref (A 6)) S hG.1 iX7 (rP_0 hR) 5 rfl (by decide) w0 rfl dX7_heightBelieved_53 ?_
    refine rd_getN (own := RX7) (x := .ref (A 29)) S hG.1 iX2 (rP_6 hR) 1 rfl (by decide) nest_174 rfl dX7_heightBelieved_56 ?_
    refine lv_iload_n hx hb dX7_heightBelieved_59 rfl (lv_at hl 3 rfl) ?_
    refine rd_V (As := [.int cr]) (rest := [.int d, .int (rowAt 4 (f 17) p), .int p, .int x3, .ref (A 5)]) (v := some (.int (rowAt 4 (f 29) cr))) S hG (c_X6_at l G H (A 29) (A 49) 4 (f 29) (by decide) (rP_29 hR) (rP_49 hR) cr) gX7_heightBelieved_X6_at rfl ⟨rfl, rfl⟩ nmX6_at ⟨Nat.le_of_ble_eq_true rfl, Nat.le_of_ble_eq_true rfl⟩ (rd_rcv hG.1 (rP_29 hR) rfl) rfl hl.1 rfl (Nat.le_of_ble_eq_true rfl) ⟨Nat.zero_le _, Nat.zero_le _⟩ dX7_heightBelieved_60 ?_
    refine W.eq (g2 := F0 mZ 63 ls [.int (rowAt 4 (f 29) cr), .int d, .int (rowAt 4 (f 17) p), .int p, .int x3, .ref (A 5)]) rfl ?_
    refine rd_V (As := [.int x3, .int p, .int (rowAt 4 (f 17) p), .int d, .int (rowAt 4 (f 29) cr)]) (rest := []) (v := some (.int (apTo f x3 p (rowAt 4 (f 17) p) d (rowAt 4 (f 29) cr)))) S hG (c_X3_applyTo l G A f g H hR x3 p (rowAt 4 (f 17) p) d (rowAt 4 (f 29) cr)) gX7_heightBelieved_X3_applyTo rfl ⟨rfl, rfl⟩ nmX3_applyTo ⟨Nat.le_of_ble_eq_true rfl, Nat.le_of_ble_eq_true rfl⟩ (rd_rcv hG.1 (rP_5 hR) rfl) rfl hl.1 rfl (Nat.le_of_ble_eq_true rfl) ⟨Nat.zero_le _, Nat.zero_le _⟩ dX7_heightBelieved_63 ?_
    refine W.eq (g2 := F0 mZ 66 ls [.int (apTo f x3 p (rowAt 4 (f 17) p) d (rowAt 4 (f 29) cr))]) rfl ?_
    exact rd_iret S hr hlk dX7_heightBelieved_66 (congrArg (fun z => some (Value.int z)) (by subst ex3; subst ex1; first | rfl | (simp only [hBl, c2, ne_eq, not_true_eq_false, not_false_eq_true, and_true, true_and, and_false, false_and, or_true, true_or, or_false, false_or, and_self, or_self, decide_eq_true_eq, ↓reduceIte]; done) | (simp [hBl, c2]; done) | (simp only [hBl, c2, ne_eq, not_true_eq_false, not_false_eq_true, and_true, true_and, and_false, false_and, or_true, true_or, or_false, false_or, and_self, or_self, decide_eq_true_eq, ↓reduceIte])))
  · refine lv_iconst (v := (-1)) hx hb dX7_heightBelieved_19 (by decide) ?_
    exact rd_iret S hr hlk dX7_heightBelieved_20 (congrArg (fun z => some (Value.int z)) (by subst ex1; first | rfl | (simp only [hBl, c2, ne_eq, not_true_eq_false, not_false_eq_true, and_true, true_and, and_false, false_and, or_true, true_or, or_false, false_or, and_self, or_self, decide_eq_true_eq, ↓reduceIte]; done) | (simp [hBl, c2]; done) | (simp only [hBl, c2, ne_eq, not_true_eq_false, not_false_eq_true, and_true, true_and, and_false, false_and, or_true, true_or, or_false, false_or, and_self, or_self, decide_eq_true_eq, ↓reduceIte])))
theorem nmX7_unsafeSet : nmV yX7_unsafeSet RX7 0 := by decide +kernel
set_option maxHeartbeats 4000000 in
set_option maxRecDepth 100000 in
theorem c_X7_unsafeSet (l : Launch) (G : GT) (A : Nat → Nat) (f : Nat → Nat → Int32) (g : Nat → Nat) (H : Heap) (hR : RP G A f g H) : RdV l G H yX7_unsafeSet wsX7_unsafeSet { frames := 4, cells := 0, slots := 0, locals := 98 } [.ref (A 0)] (some (.int (uSet f g))) := by
  refine rd_of (cc := cX7_unsafeSet) (maxL := 4) (ret := (some .int)) (by decide) rfl (Nat.le_of_ble_eq_true rfl) ?_
  intro pZ eZ sZ mZ bZ meZ cZ ls S hr hlk hl hH hG
  have S : CallFix pZ mZ cZ cX7_unsafeSet 4 sZ _ wsX7_unsafeSet RX7 := S
  have hx := S.1
  have hb := S.2.1
  have hown := S.2.2.2.1
  have hts := S.2.2.2.2
  have hl : lv_has ls 4 [(0, .ref (A 0))] := hl
  have w0 := hts (.fieldLink RX7 26 "MinimaRoom" "procedures" "LMinimaRoom$Procedures;") (by decide +kernel)
  have w1 := hts (.fieldLink RX7 51 "MinimaRoom" "now" "I") (by decide +kernel)
  have iX7 : ∀ w ∈ u_ws RX7 TX7 8, w ∈ wsX7_unsafeSet := by decide +kernel
  have iX5 : ∀ w ∈ u_ws RX5 TX5 3, w ∈ wsX7_unsafeSet := by decide +kernel
  have hgb := hR.1
  have hg3 := hgb 3
  refine lv_iconst (v := 0) hx hb dX7_unsafeSet_0 (by decide) ?_
  refine lv_istore_n (lv' := [(1, .int 0), (0, .ref (A 0))]) hx hb dX7_unsafeSet_1 rfl hl (by decide) rfl (fun ls hl => ?_)
  refine lv_iconst (v := 0) hx hb dX7_unsafeSet_2 (by decide) ?_
  refine lv_istore_n (lv' := [(2, .int 0), (1, .int 0), (0, .ref (A 0))]) hx hb dX7_unsafeSet_3 rfl hl (by decide) rfl (fun ls hl => ?_)
  have loop4 : ∀ (n k : Nat), k + n = g 3 → ∀ (z4_1 : Int32), z4_1 = fl k (fun j s => if isUn f g (nI j) (nI (g 0)) then s ||| (1 <<< (nI j &&& 31)) else s) 0 → ∀ (ls : Array Slot), lv_has ls 4 [(2, .int (nI k)), (1, .int z4_1), (0, .ref (A 0))] → W pZ l eZ ({ frames := 4, cells := 0, slots := 0, locals := 98 } : Room) sZ mZ ([.ref (A 0)] : List Value).toArray bZ meZ cZ H [] 0 0 (rd_Q bZ H [.ref (A 0)] sZ (some (.int (uSet f g)))) (F0 mZ 4 ls []) := by
    intro n
    induction n with
    | zero =>
      intro k hk4 z4_1 ez4_1 ls hl
      obtain rfl : k = g 3 := by omega
      refine lv_iload_n hx hb dX7_unsafeSet_4 rfl (lv_at hl 0 rfl) ?_
      refine lv_aload_n hx hb dX7_unsafeSet_5 rfl (lv_at hl 2 rfl) ?_
      refine rd_get (own := RX7) (x := .ref (A 3)) S hG.1 iX7 (rP_0 hR) 2 rfl (by decide) w0 rfl dX7_unsafeSet_6 ?_
      refine rd_getN (own := RX7) (x := .int (nI (g 3))) S hG.1 iX5 (rP_3 hR) 2 rfl (by decide) nest_124 rfl dX7_unsafeSet_9 ?_
      refine lv_icmp_ge (tgt := 56) hx hb dX7_unsafeSet_12 (by decide) (fun c1 => ?_) (fun c1 => ?_)
      · have d1 := Int32.not_lt.mpr c1
        refine lv_iload_n hx hb dX7_unsafeSet_56 rfl (lv_at hl 1 rfl) ?_
        exact rd_iret S hr hlk dX7_unsafeSet_57 (congrArg (fun z => some (Value.int z)) (by subst ez4_1; first | rfl | (simp only [uSet, isUn, c1, d1, ne_eq, not_true_eq_false, not_false_eq_true, and_true, true_and, and_false, false_and, or_true, true_or, or_false, false_or, and_self, or_self, decide_eq_true_eq, ↓reduceIte]; done) | (simp [uSet, isUn, c1, d1]; done) | (simp only [uSet, isUn, c1, d1, ne_eq, not_true_eq_false, not_false_eq_true, and_true, true_and, and_false, false_and, or_true, true_or, or_false, false_or, and_self, or_self, decide_eq_true_eq, ↓reduceIte])))
      · exact absurd c1 (by first | exact fun h => absurd (Int32.le_refl _) h | exact nI_nlt (by omega) (by omega) | exact nI_ge (by omega) (by omega) | exact fun h => h (nI_lt (by omega) (by omega)) | exact fun h => h (nI_le (by omega) (by omega)) | exact fun h => h (lp_le_cnt _) | exact lp_nle (by omega))
    | succ n ih4 =>
      intro k hk4 z4_1 ez4_1 ls hl
      refine lv_iload_n hx hb dX7_unsafeSet_4 rfl (lv_at hl 0 rfl) ?_
      refine lv_aload_n hx hb dX7_unsafeSet_5 rfl (lv_at hl 2 rfl) ?_
      refine rd_get (own := RX7) (x := .ref (A 3)) S hG.1 iX7 (rP_0 hR) 2 rfl (by decide) w0 rfl dX7_unsafeSet_6 ?_
      refine rd_getN (own := RX7) (x := .int (nI (g 3))) S hG.1 iX5 (rP_3 hR) 2 rfl (by decide) nest_124 rfl dX7_unsafeSet_9 ?_
      refine lv_icmp_ge (tgt := 56) hx hb dX7_unsafeSet_12 (by decide) (fun c2 => ?_) (fun c2 => ?_)
      · exact absurd c2 (by first | exact fun h => absurd (Int32.le_refl _) h | exact nI_nlt (by omega) (by omega) | exact nI_ge (by omega) (by omega) | exact fun h => h (nI_lt (by omega) (by omega)) | exact fun h => h (nI_le (by omega) (by omega)) | exact fun h => h (lp_le_cnt _) | exact lp_nle (by omega))
      · have d2 := Int32.not_le.mp c2
        refine lv_aload_n hx hb dX7_unsafeSet_15 rfl (lv_at hl 2 rfl) ?_
        refine lv_iload_n hx hb dX7_unsafeSet_16 rfl (lv_at hl 0 rfl) ?_
        refine lv_aload_n hx hb dX7_unsafeSet_17 rfl (lv_at hl 2 rfl) ?_
        refine rd_get (own := RX7) (x := .int (nI (g 0))) S hG.1 iX7 (rP_0 hR) 6 rfl (by decide) w1 rfl dX7_unsafeSet_18 ?_
        refine rd_V (As := [.int (nI k), .int (nI (g 0))]) (rest := []) (v := some (.int (hIF f g (nI k) (nI (g 0))))) S hG (c_X7_heightInForce l G A f g H hR (nI k) (nI (g 0))) gX7_unsafeSet_X7_heightInForce rfl ⟨rfl, rfl⟩ nmX7_heightInForce ⟨Nat.le_of_ble_eq_true rfl, Nat.le_of_ble_eq_true rfl⟩ (rd_rcv hG.1 (rP_0 hR) rfl) rfl hl.1 rfl (Nat.le_of_ble_eq_true rfl) ⟨Nat.zero_le _, Nat.zero_le _⟩ dX7_unsafeSet_21 ?_
        refine W.eq (g2 := F0 mZ 24 ls [.int (hIF f g (nI k) (nI (g 0)))]) rfl ?_
        refine lv_topi (fun x3 ex3 => ?_)
        refine lv_istore_n (lv' := [(3, .int x3), (2, .int (nI k)), (1, .int z4_1), (0, .ref (A 0))]) hx hb dX7_unsafeSet_24 rfl hl (by decide) rfl (fun ls hl => ?_)
        refine lv_iload_n hx hb dX7_unsafeSet_25 rfl (lv_at hl 0 rfl) ?_
        refine lv_iconst (v := (-1)) hx hb dX7_unsafeSet_26 (by decide) ?_
        refine lv_icmp_eq (tgt := 50) hx hb dX7_unsafeSet_27 (by decide) (fun c4 => ?_) (fun c4 => ?_)
        · refine lv_iinc (v := nI (k + 1)) (lv' := [(2, .int (nI (k + 1))), (3, .int x3), (1, .int z4_1), (0, .ref (A 0))]) hx hb dX7_unsafeSet_50 hl (k := 1) rfl (nI_inc _) (by decide) rfl (fun ls hl => ?_)
          refine lv_goto (tgt := 4) hx hb dX7_unsafeSet_53 (by decide) ?_
          exact ih4 (k + 1) (by omega) _ (by subst ex3; subst ez4_1; first | rfl | (simp only [fl, uSet, isUn, c2, d2, c4, ne_eq, not_true_eq_false, not_false_eq_true, and_true, true_and, and_false, false_and, or_true, true_or, or_false, false_or, and_self, or_self, decide_eq_true_eq, ↓reduceIte]; done) | (simp [fl, uSet, isUn, c2, d2, c4]; done) | (simp only [fl, uSet, isUn, c2, d2, c4, ne_eq, not_true_eq_false, not_false_eq_true, and_true, true_and, and_false, false_and, or_true, true_or, or_false, false_or, and_self, or_self, decide_eq_true_eq, ↓reduceIte])) ls (lv_sub hl [0, 2, 3] rfl)
        · refine lv_iload_n hx hb dX7_unsafeSet_30 rfl (lv_at hl 0 rfl) ?_
          refine lv_aload_n hx hb dX7_unsafeSet_31 rfl (lv_at hl 3 rfl) ?_
          refine lv_iload_n hx hb dX7_unsafeSet_32 rfl (lv_at hl 1 rfl) ?_
          refine lv_aload_n hx hb dX7_unsafeSet_33 rfl (lv_at hl 3 rfl) ?_
          refine rd_get (own := RX7) (x := .int (nI (g 0))) S hG.1 iX7 (rP_0 hR) 6 rfl (by decide) w1 rfl dX7_unsafeSet_34 ?_
          refine lv_iconst (v := (-1)) hx hb dX7_unsafeSet_37 (by decide) ?_
          refine rd_V (As := [.int (nI k), .int (nI (g 0)), .int (-1)]) (rest := [.int x3]) (v := some (.int (lH f g (nI k) (nI (g 0)) (-1)))) S hG (c_X7_leastHeight l G A f g H hR (nI k) (nI (g 0)) (-1)) gX7_unsafeSet_X7_leastHeight rfl ⟨rfl, rfl⟩ nmX7_leastHeight ⟨Nat.le_of_ble_eq_true rfl, Nat.le_of_ble_eq_true rfl⟩ (rd_rcv hG.1 (rP_0 hR) rfl) rfl hl.1 rfl (Nat.le_of_ble_eq_true rfl) ⟨Nat.zero_le _, Nat.zero_le _⟩ dX7_unsafeSet_38 ?_
          refine W.eq (g2 := F0 mZ 41 ls [.int (lH f g (nI k) (nI (g 0)) (-1)), .int x3]) rfl ?_
          refine lv_icmp_ge (tgt := 50) hx hb dX7_unsafeSet_41 (by decide) (fun c5 => ?_) (fun c5 => ?_)
          · have d5 := Int32.not_lt.mpr c5
            refine lv_iinc (v := nI (k + 1)) (lv' := [(2, .int (nI (k + 1))), (3, .int x3), (1, .int z4_1), (0, .ref (A 0))]) hx hb dX7_unsafeSet_50 hl (k := 1) rfl (nI_inc _) (by decide) rfl (fun ls hl => ?_)
            refine lv_goto (tgt := 4) hx hb dX7_unsafeSet_53 (by decide) ?_
            exact ih4 (k + 1) (by omega) _ (by subst ex3; subst ez4_1; first | rfl | (simp only [fl, uSet, isUn, c2, d2, c4, c5, d5, ne_eq, not_true_eq_false, not_false_eq_true, and_true, true_and, and_false, false_and, or_true, true_or, or_false, false_or, and_self, or_self, decide_eq_true_eq, ↓reduceIte]; done) | (simp [fl, uSet, isUn, c2, d2, c4, c5, d5]; done) | (simp only [fl, uSet, isUn, c2, d2, c4, c5, d5, ne_eq, not_true_eq_false, not_false_eq_true, and_true, true_and, and_false, false_and, or_true, true_or, or_false, false_or, and_self, or_self, decide_eq_true_eq, ↓reduceIte])) ls (lv_sub hl [0, 2, 3] rfl)
          · have d5 := Int32.not_le.mp c5
            refine lv_iload_n hx hb dX7_unsafeSet_44 rfl (lv_at hl 2 rfl) ?_
            refine lv_iconst (v := 1) hx hb dX7_unsafeSet_45 (by decide) ?_
            refine lv_iload_n hx hb dX7_unsafeSet_46 rfl (lv_at hl 1 rfl) ?_
            refine lv_ishl hx hb dX7_unsafeSet_47 ?_
            refine lv_ior hx hb dX7_unsafeSet_48 ?_
            refine lv_topi (fun x6 ex6 => ?_)
            refine lv_istore_n (lv' := [(1, .int x6), (3, .int x3), (2, .int (nI k)), (0, .ref (A 0))]) hx hb dX7_unsafeSet_49 rfl hl (by decide) rfl (fun ls hl => ?_)
            refine lv_iinc (v := nI (k + 1)) (lv' := [(2, .int (nI (k + 1))), (1, .int x6), (3, .int x3), (0, .ref (A 0))]) hx hb dX7_unsafeSet_50 hl (k := 2) rfl (nI_inc _) (by decide) rfl (fun ls hl => ?_)
            refine lv_goto (tgt := 4) hx hb dX7_unsafeSet_53 (by decide) ?_
            exact ih4 (k + 1) (by omega) _ (by subst ex6; subst ex3; subst ez4_1; first | rfl | (simp only [fl, uSet, isUn, c2, d2, c4, c5, d5, ne_eq, not_true_eq_false, not_false_eq_true, and_true, true_and, and_false, false_and, or_true, true_or, or_false, false_or, and_self, or_self, decide_eq_true_eq, ↓reduceIte]; done) | (simp [fl, uSet, isUn, c2, d2, c4, c5, d5]; done) | (simp only [fl, uSet, isUn, c2, d2, c4, c5, d5, ne_eq, not_true_eq_false, not_false_eq_true, and_true, true_and, and_false, false_and, or_true, true_or, or_false, false_or, and_self, or_self, decide_eq_true_eq, ↓reduceIte])) ls (lv_sub hl [0, 1, 3] rfl)
  exact loop4 (g 3) 0 (by omega) _ (by first | rfl | (simp only [fl, uSet, isUn, ne_eq, not_true_eq_false, not_false_eq_true, and_true, true_and, and_false, false_and, or_true, true_or, or_false, false_or, and_self, or_self, decide_eq_true_eq, ↓reduceIte]; done) | (simp [fl, uSet, isUn]; done) | (simp only [fl, uSet, isUn, ne_eq, not_true_eq_false, not_false_eq_true, and_true, true_and, and_false, false_and, or_true, true_or, or_false, false_or, and_self, or_self, decide_eq_true_eq, ↓reduceIte])) ls (lv_sub hl [0, 1, 2] rfl)
theorem nmX7_needWouldBe : nmV yX7_needWouldBe RX7 4 := by decide +kernel
set_option maxHeartbeats 4000000 in
set_option maxRecDepth 100000 in
theorem c_X7_needWouldBe (l : Launch) (G : GT) (A : Nat → Nat) (f : Nat → Nat → Int32) (g : Nat → Nat) (H : Heap) (hR : RP G A f g H) (p x y t : Int32) : RdV l G H yX7_needWouldBe wsX7_needWouldBe { frames := 2, cells := 0, slots := 0, locals := 47 } [.ref (A 0), .int p, .int x, .int y, .int t] (some (.int (nWB f p x y t))) := by
  refine rd_of (cc := cX7_needWouldBe) (maxL := 5) (ret := (some .int)) (by decide) rfl (Nat.le_of_ble_eq_true rfl) ?_
  intro pZ eZ sZ mZ bZ meZ cZ ls S hr hlk hl hH hG
  have S : CallFix pZ mZ cZ cX7_needWouldBe 5 sZ _ wsX7_needWouldBe RX7 := S
  have hx := S.1
  have hb := S.2.1
  have hown := S.2.2.2.1
  have hts := S.2.2.2.2
  have hl : lv_has ls 5 [(0, .ref (A 0)), (1, .int p), (2, .int x), (3, .int y), (4, .int t)] := hl
  have w0 := hts (.fieldLink RX7 26 "MinimaRoom" "procedures" "LMinimaRoom$Procedures;") (by decide +kernel)
  have iX7 : ∀ w ∈ u_ws RX7 TX7 8, w ∈ wsX7_needWouldBe := by decide +kernel
  have iX5 : ∀ w ∈ u_ws RX5 TX5 3, w ∈ wsX7_needWouldBe := by decide +kernel
  have hgb := hR.1
  refine lv_iload_n hx hb dX7_needWouldBe_0 rfl (lv_at hl 2 rfl) ?_
  refine lv_iload_n hx hb dX7_needWouldBe_1 rfl (lv_at hl 3 rfl) ?_
  refine lv_iload hx hb dX7_needWouldBe_2 (lv_at hl 4 rfl) ?_
  refine lv_aload_n hx hb dX7_needWouldBe_4 rfl (lv_at hl 0 rfl) ?_
  refine lv_iload_n hx hb dX7_needWouldBe_5 rfl (lv_at hl 1 rfl) ?_
  refine rd_V (As := [.int p]) (rest := [.int t, .int y, .int x]) (v := some (.int (kiOf f p))) S hG (c_X7_kindOf l G A f g H hR p) gX7_needWouldBe_X7_kindOf rfl ⟨rfl, rfl⟩ nmX7_kindOf ⟨Nat.le_of_ble_eq_true rfl, Nat.le_of_ble_eq_true rfl⟩ (rd_rcv hG.1 (rP_0 hR) rfl) rfl hl.1 rfl (Nat.le_of_ble_eq_true rfl) ⟨Nat.zero_le _, Nat.zero_le _⟩ dX7_needWouldBe_6 ?_
  refine W.eq (g2 := F0 mZ 9 ls [.int (kiOf f p), .int t, .int y, .int x]) rfl ?_
  refine lv_aload_n hx hb dX7_needWouldBe_9 rfl (lv_at hl 0 rfl) ?_
  refine rd_get (own := RX7) (x := .ref (A 3)) S hG.1 iX7 (rP_0 hR) 2 rfl (by decide) w0 rfl dX7_needWouldBe_10 ?_
  refine rd_getN (own := RX7) (x := .ref (A 18)) S hG.1 iX5 (rP_3 hR) 1 rfl (by decide) nest_270 rfl dX7_needWouldBe_13 ?_
  refine lv_iload_n hx hb dX7_needWouldBe_16 rfl (lv_at hl 1 rfl) ?_
  refine rd_V (As := [.int p]) (rest := [.int (kiOf f p), .int t, .int y, .int x]) (v := some (.int (rowAt 4 (f 18) p))) S hG (c_X6_at l G H (A 18) (A 38) 4 (f 18) (by decide) (rP_18 hR) (rP_38 hR) p) gX7_needWouldBe_X6_at rfl ⟨rfl, rfl⟩ nmX6_at ⟨Nat.le_of_ble_eq_true rfl, Nat.le_of_ble_eq_true rfl⟩ (rd_rcv hG.1 (rP_18 hR) rfl) rfl hl.1 rfl (Nat.le_of_ble_eq_true rfl) ⟨Nat.zero_le _, Nat.zero_le _⟩ dX7_needWouldBe_17 ?_
  refine W.eq (g2 := F0 mZ 20 ls [.int (rowAt 4 (f 18) p), .int (kiOf f p), .int t, .int y, .int x]) rfl ?_
  refine rd_S (As := [.int x, .int y, .int t, .int (kiOf f p), .int (rowAt 4 (f 18) p)]) (rest := []) (v := some (.int (need x y t (kiOf f p) (rowAt 4 (f 18) p)))) S hG (c_X7_needOf l G H x y t (kiOf f p) (rowAt 4 (f 18) p)) gX7_needWouldBe_X7_needOf rfl ⟨rfl, rfl⟩ nmX7_needOf ⟨Nat.le_of_ble_eq_true rfl, Nat.le_of_ble_eq_true rfl⟩ rfl hl.1 rfl (Nat.le_of_ble_eq_true rfl) ⟨Nat.zero_le _, Nat.zero_le _⟩ dX7_needWouldBe_20 ?_
  refine W.eq (g2 := F0 mZ 23 ls [.int (need x y t (kiOf f p) (rowAt 4 (f 18) p))]) rfl ?_
  refine rd_S (As := [.int (need x y t (kiOf f p) (rowAt 4 (f 18) p))]) (rest := []) (v := some (.int (rUp (need x y t (kiOf f p) (rowAt 4 (f 18) p))))) S hG (c_X7_roundedUp l G H (need x y t (kiOf f p) (rowAt 4 (f 18) p))) gX7_needWouldBe_X7_roundedUp rfl ⟨rfl, rfl⟩ nmX7_roundedUp ⟨Nat.le_of_ble_eq_true rfl, Nat.le_of_ble_eq_true rfl⟩ rfl hl.1 rfl (Nat.le_of_ble_eq_true rfl) ⟨Nat.zero_le _, Nat.zero_le _⟩ dX7_needWouldBe_23 ?_
  refine W.eq (g2 := F0 mZ 26 ls [.int (rUp (need x y t (kiOf f p) (rowAt 4 (f 18) p)))]) rfl ?_
  exact rd_iret S hr hlk dX7_needWouldBe_26 (congrArg (fun z => some (Value.int z)) (by first | rfl | (simp only [nWB, ne_eq, not_true_eq_false, not_false_eq_true, and_true, true_and, and_false, false_and, or_true, true_or, or_false, false_or, and_self, or_self, decide_eq_true_eq, ↓reduceIte]; done) | (simp [nWB]; done) | (simp only [nWB, ne_eq, not_true_eq_false, not_false_eq_true, and_true, true_and, and_false, false_and, or_true, true_or, or_false, false_or, and_self, or_self, decide_eq_true_eq, ↓reduceIte])))
