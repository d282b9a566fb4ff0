theorem nmJ3_checkIndex_8e157 : nmV yJ3_checkIndex_8e157 RJ3 3 := by decide +kernel

set_option maxHeartbeats 1000000 in
set_option maxRecDepth 100000 in
theorem c_J3_checkIndex_8e157 (l : Launch) (G : GT) (H : Heap) (i n : Nat) (hi : i < n) (hn : n < 65536) : RdV l G H yJ3_checkIndex_8e157 wsJ3_checkIndex_8e157 { frames := 0, cells := 0, slots := 0, locals := 0 } [.int (nI i), .int (nI n), .null] (some (.int (nI i))) := by
  refine rd_of (cc := cJ3_checkIndex_8e157) (maxL := 3) (ret := (some .int)) (by decide) rfl (Nat.le_of_ble_eq_true rfl) ?_
  intro pZ eZ sZ mZ bZ meZ cZ ls S hr hlk hl hHs hG
  have S : CallFix pZ mZ cZ cJ3_checkIndex_8e157 3 sZ _ wsJ3_checkIndex_8e157 RJ3 := S
  have hx := S.1
  have hb := S.2.1
  have hown := S.2.2.2.1
  have hts := S.2.2.2.2
  have hl : lv_has ls 3 [(0, .int (nI i)), (1, .int (nI n)), (2, .null)] := hl
  have hz : ¬ nI i < 0 := nI_pos (by omega)
  have hz2 : nI i < nI n := nI_lt hi (by omega)
  refine lv_iload_n hx hb dJ3_checkIndex_8e157_0 rfl (lv_at hl 0 rfl) ?_
  refine lv_if_lt (tgt := 9) hx hb dJ3_checkIndex_8e157_1 (by decide) (fun c1 => ?_) (fun c1 => ?_)
  · first | exact absurd c1 hz | exact absurd hz c1 | exact absurd (Int32.not_lt.mp c1) (Int32.not_le.mpr hz) | exact absurd (Int32.not_lt.mpr c1) (by simp only [Int32.not_lt]; exact hz)
  · have d1 := Int32.not_lt.mp c1
    refine lv_iload_n hx hb dJ3_checkIndex_8e157_4 rfl (lv_at hl 0 rfl) ?_
    refine lv_iload_n hx hb dJ3_checkIndex_8e157_5 rfl (lv_at hl 1 rfl) ?_
    refine lv_icmp_lt (tgt := 16) hx hb dJ3_checkIndex_8e157_6 (by decide) (fun c2 => ?_) (fun c2 => ?_)
    · have d2 := Int32.not_le.mpr c2
      refine lv_iload_n hx hb dJ3_checkIndex_8e157_16 rfl (lv_at hl 0 rfl) ?_
      exact rd_iret S hr hlk dJ3_checkIndex_8e157_17 (congrArg (fun z => some (Value.int z)) (by first | rfl | (simp only [hz, hz2, c1, d1, c2, d2, ne_eq, not_true_eq_false, not_false_eq_true, and_true, true_and, and_false, false_and, or_true, true_or, or_false, false_or, and_self, or_self, decide_eq_true_eq, ↓reduceIte]; done) | (simp [hz, hz2, c1, d1, c2, d2]; done) | (simp only [hz, hz2, c1, d1, c2, d2, ne_eq, not_true_eq_false, not_false_eq_true, and_true, true_and, and_false, false_and, or_true, true_or, or_false, false_or, and_self, or_self, decide_eq_true_eq, ↓reduceIte])))
    · first | exact absurd c2 hz2 | exact absurd hz2 c2 | exact absurd (Int32.not_lt.mp c2) (Int32.not_le.mpr hz2) | exact absurd (Int32.not_lt.mpr c2) (by simp only [Int32.not_lt]; exact hz2)

theorem nmJ15_checkIndex_7cf53 : nmV yJ15_checkIndex_7cf53 RJ15 2 := by decide +kernel

set_option maxHeartbeats 1000000 in
set_option maxRecDepth 100000 in
theorem c_J15_checkIndex_7cf53 (l : Launch) (G : GT) (H : Heap) (i n : Nat) (hi : i < n) (hn : n < 65536) : RdV l G H yJ15_checkIndex_7cf53 wsJ15_checkIndex_7cf53 { frames := 1, cells := 0, slots := 0, locals := 22 } [.int (nI i), .int (nI n)] (some (.int (nI i))) := by
  refine rd_of (cc := cJ15_checkIndex_7cf53) (maxL := 2) (ret := (some .int)) (by decide) rfl (Nat.le_of_ble_eq_true rfl) ?_
  intro pZ eZ sZ mZ bZ meZ cZ ls S hr hlk hl hHs hG
  have S : CallFix pZ mZ cZ cJ15_checkIndex_7cf53 2 sZ _ wsJ15_checkIndex_7cf53 RJ15 := S
  have hx := S.1
  have hb := S.2.1
  have hown := S.2.2.2.1
  have hts := S.2.2.2.2
  have hl : lv_has ls 2 [(0, .int (nI i)), (1, .int (nI n))] := hl
  refine lv_iload_n hx hb dJ15_checkIndex_7cf53_0 rfl (lv_at hl 0 rfl) ?_
  refine lv_iload_n hx hb dJ15_checkIndex_7cf53_1 rfl (lv_at hl 1 rfl) ?_
  refine lv_null hx hb dJ15_checkIndex_7cf53_2 ?_
  refine rd_S (As := [.int (nI i), .int (nI n), .null]) (rest := []) (v := some (.int (nI i))) S hG (c_J3_checkIndex_8e157 l G H i n hi hn) gJ15_checkIndex_7cf53_J3_checkIndex_8e157 rfl ⟨rfl, rfl⟩ nmJ3_checkIndex_8e157 ⟨Nat.le_of_ble_eq_true rfl, Nat.le_of_ble_eq_true rfl⟩ rfl hl.1 rfl (Nat.le_of_ble_eq_true rfl) ⟨Nat.zero_le _, Nat.zero_le _⟩ dJ15_checkIndex_7cf53_3 ?_
  refine W.eq (g2 := F0 mZ 6 ls [.int (nI i)]) rfl ?_
  exact rd_iret S hr hlk dJ15_checkIndex_7cf53_6 (congrArg (fun z => some (Value.int z)) (by first | rfl | (simp only [true_and, ne_eq, not_true_eq_false, not_false_eq_true, and_true, true_and, and_false, false_and, or_true, true_or, or_false, false_or, and_self, or_self, decide_eq_true_eq, ↓reduceIte]; done) | (simp [true_and]; done) | (simp only [true_and, ne_eq, not_true_eq_false, not_false_eq_true, and_true, true_and, and_false, false_and, or_true, true_or, or_false, false_or, and_self, or_self, decide_eq_true_eq, ↓reduceIte])))

theorem nmJx4a65c_elementData_915e3 : nmV yJx4a65c_elementData_915e3 RJx4a65c 1 := by decide +kernel

set_option maxHeartbeats 1000000 in
set_option maxRecDepth 100000 in
theorem c_Jx4a65c_elementData_915e3 (l : Launch) (G : GT) (H : Heap) (h a : Nat) (mcv : Int32) (n cap : Nat) (r : Nat → Option Nat) (h1 : va_at G.1 vwCl (h, .inr (0, [.int mcv, .ref a, .int (nI n)])) H) (h2 : va_at G.1 vwCl (a, .inl (G.2.1 1, gRef cap r)) H) (hcap : cap < 65536) (i x : Nat) (hi : i < cap) (hx9 : r i = some x) : RdV l G H yJx4a65c_elementData_915e3 wsJx4a65c_elementData_915e3 { frames := 0, cells := 0, slots := 0, locals := 0 } [.ref h, .int (nI i)] (some (.ref x)) := by
  refine rd_of (cc := cJx4a65c_elementData_915e3) (maxL := 2) (ret := (some (.object "java/lang/Object"))) (by decide) rfl (Nat.le_of_ble_eq_true rfl) ?_
  intro pZ eZ sZ mZ bZ meZ cZ ls S hr hlk hl hHs hG
  have S : CallFix pZ mZ cZ cJx4a65c_elementData_915e3 2 sZ _ wsJx4a65c_elementData_915e3 RJx4a65c := S
  have hx := S.1
  have hb := S.2.1
  have hown := S.2.2.2.1
  have hts := S.2.2.2.2
  have hl : lv_has ls 2 [(0, .ref h), (1, .int (nI i))] := hl
  have w0 := hts (.fieldLink RJx4a65c 9 "java/util/ArrayList" "elementData" "[Ljava/lang/Object;") (by decide +kernel)
  have iJx4a65c : ∀ w ∈ u_ws RJx4a65c TJx4a65c 3, w ∈ wsJx4a65c_elementData_915e3 := by decide +kernel
  refine lv_aload_n hx hb dJx4a65c_elementData_915e3_0 rfl (lv_at hl 0 rfl) ?_
  refine rd_get (own := RJx4a65c) (x := .ref a) S hG.1 iJx4a65c h1 1 rfl (by decide) w0 rfl dJx4a65c_elementData_915e3_1 ?_
  refine lv_iload_n hx hb dJx4a65c_elementData_915e3_4 rfl (lv_at hl 1 rfl) ?_
  refine rd_aldq (x := x) S hG.1 h2 (vp_in_nI hi (by omega)) (by rw [nI_clamp (by omega)]; exact hx9) dJx4a65c_elementData_915e3_5 ?_
  exact rd_aret S hr hlk (by first | exact Or.inl ⟨_, rfl⟩ | exact Or.inr ⟨_, rfl⟩) (by first | exact Or.inl rfl | exact Or.inr ⟨_, rfl⟩) dJx4a65c_elementData_915e3_6 (by first | rfl | (simp only [true_and, ne_eq, not_true_eq_false, not_false_eq_true, and_true, true_and, and_false, false_and, or_true, true_or, or_false, false_or, and_self, or_self, decide_eq_true_eq, ↓reduceIte]; done) | (simp [true_and]; done) | (simp only [true_and, ne_eq, not_true_eq_false, not_false_eq_true, and_true, true_and, and_false, false_and, or_true, true_or, or_false, false_or, and_self, or_self, decide_eq_true_eq, ↓reduceIte]))

theorem nmJx4a65c_get_915e3 : nmV yJx4a65c_get_915e3 RJx4a65c 1 := by decide +kernel

set_option maxHeartbeats 1000000 in
set_option maxRecDepth 100000 in
theorem c_Jx4a65c_get_915e3 (l : Launch) (G : GT) (H : Heap) (h a : Nat) (mcv : Int32) (n cap : Nat) (r : Nat → Option Nat) (h1 : va_at G.1 vwCl (h, .inr (0, [.int mcv, .ref a, .int (nI n)])) H) (h2 : va_at G.1 vwCl (a, .inl (G.2.1 1, gRef cap r)) H) (hn : n ≤ cap) (hcap : cap < 65536) (i x : Nat) (hi : i < n) (hx9 : r i = some x) : RdV l G H yJx4a65c_get_915e3 wsJx4a65c_get_915e3 { frames := 2, cells := 0, slots := 0, locals := 43 } [.ref h, .int (nI i)] (some (.ref x)) := by
  refine rd_of (cc := cJx4a65c_get_915e3) (maxL := 2) (ret := (some (.object "java/lang/Object"))) (by decide) rfl (Nat.le_of_ble_eq_true rfl) ?_
  intro pZ eZ sZ mZ bZ meZ cZ ls S hr hlk hl hHs hG
  have S : CallFix pZ mZ cZ cJx4a65c_get_915e3 2 sZ _ wsJx4a65c_get_915e3 RJx4a65c := S
  have hx := S.1
  have hb := S.2.1
  have hown := S.2.2.2.1
  have hts := S.2.2.2.2
  have hl : lv_has ls 2 [(0, .ref h), (1, .int (nI i))] := hl
  have w0 := hts (.fieldLink RJx4a65c 48 "java/util/ArrayList" "size" "I") (by decide +kernel)
  have iJx4a65c : ∀ w ∈ u_ws RJx4a65c TJx4a65c 3, w ∈ wsJx4a65c_get_915e3 := by decide +kernel
  refine lv_iload_n hx hb dJx4a65c_get_915e3_0 rfl (lv_at hl 1 rfl) ?_
  refine lv_aload_n hx hb dJx4a65c_get_915e3_1 rfl (lv_at hl 0 rfl) ?_
  refine rd_get (own := RJx4a65c) (x := .int (nI n)) S hG.1 iJx4a65c h1 2 rfl (by decide) w0 rfl dJx4a65c_get_915e3_2 ?_
  refine rd_S (As := [.int (nI i), .int (nI n)]) (rest := []) (v := some (.int (nI i))) S hG (c_J15_checkIndex_7cf53 l G H i n hi (by omega)) gJx4a65c_get_915e3_J15_checkIndex_7cf53 rfl ⟨rfl, rfl⟩ nmJ15_checkIndex_7cf53 ⟨Nat.le_of_ble_eq_true rfl, Nat.le_of_ble_eq_true rfl⟩ rfl hl.1 rfl (Nat.le_of_ble_eq_true rfl) ⟨Nat.zero_le _, Nat.zero_le _⟩ dJx4a65c_get_915e3_5 ?_
  refine W.eq (g2 := F0 mZ 8 ls [.int (nI i)]) rfl ?_
  refine lv_pop hx hb dJx4a65c_get_915e3_8 rfl ?_
  refine lv_aload_n hx hb dJx4a65c_get_915e3_9 rfl (lv_at hl 0 rfl) ?_
  refine lv_iload_n hx hb dJx4a65c_get_915e3_10 rfl (lv_at hl 1 rfl) ?_
  refine rd_V (As := [.int (nI i)]) (rest := []) (v := some (.ref x)) S hG (c_Jx4a65c_elementData_915e3 l G H h a mcv n cap r h1 h2 hcap i x (by omega) hx9) gJx4a65c_get_915e3_Jx4a65c_elementData_915e3 rfl ⟨rfl, rfl⟩ nmJx4a65c_elementData_915e3 ⟨Nat.le_of_ble_eq_true rfl, Nat.le_of_ble_eq_true rfl⟩ (rd_rcv hG.1 h1 rfl) rfl hl.1 rfl (Nat.le_of_ble_eq_true rfl) ⟨Nat.zero_le _, Nat.zero_le _⟩ dJx4a65c_get_915e3_11 ?_
  refine W.eq (g2 := F0 mZ 14 ls [.ref x]) rfl ?_
  exact rd_aret S hr hlk (by first | exact Or.inl ⟨_, rfl⟩ | exact Or.inr ⟨_, rfl⟩) (by first | exact Or.inl rfl | exact Or.inr ⟨_, rfl⟩) dJx4a65c_get_915e3_14 (by first | rfl | (simp only [true_and, ne_eq, not_true_eq_false, not_false_eq_true, and_true, true_and, and_false, false_and, or_true, true_or, or_false, false_or, and_self, or_self, decide_eq_true_eq, ↓reduceIte]; done) | (simp [true_and]; done) | (simp only [true_and, ne_eq, not_true_eq_false, not_false_eq_true, and_true, true_and, and_false, false_and, or_true, true_or, or_false, false_or, and_self, or_self, decide_eq_true_eq, ↓reduceIte]))

theorem nmJx4a65c_size_8abf5 : nmV yJx4a65c_size_8abf5 RJx4a65c 0 := by decide +kernel

set_option maxHeartbeats 1000000 in
set_option maxRecDepth 100000 in
theorem c_Jx4a65c_size_8abf5 (l : Launch) (G : GT) (H : Heap) (h a : Nat) (mcv n : Int32) (h1 : va_at G.1 vwCl (h, .inr (0, [.int mcv, .ref a, .int n])) H) : RdV l G H yJx4a65c_size_8abf5 wsJx4a65c_size_8abf5 { frames := 0, cells := 0, slots := 0, locals := 0 } [.ref h] (some (.int n)) := by
  refine rd_of (cc := cJx4a65c_size_8abf5) (maxL := 1) (ret := (some .int)) (by decide) rfl (Nat.le_of_ble_eq_true rfl) ?_
  intro pZ eZ sZ mZ bZ meZ cZ ls S hr hlk hl hHs hG
  have S : CallFix pZ mZ cZ cJx4a65c_size_8abf5 1 sZ _ wsJx4a65c_size_8abf5 RJx4a65c := S
  have hx := S.1
  have hb := S.2.1
  have hown := S.2.2.2.1
  have hts := S.2.2.2.2
  have hl : lv_has ls 1 [(0, .ref h)] := hl
  have w0 := hts (.fieldLink RJx4a65c 48 "java/util/ArrayList" "size" "I") (by decide +kernel)
  have iJx4a65c : ∀ w ∈ u_ws RJx4a65c TJx4a65c 3, w ∈ wsJx4a65c_size_8abf5 := by decide +kernel
  refine lv_aload_n hx hb dJx4a65c_size_8abf5_0 rfl (lv_at hl 0 rfl) ?_
  refine rd_get (own := RJx4a65c) (x := .int n) S hG.1 iJx4a65c h1 2 rfl (by decide) w0 rfl dJx4a65c_size_8abf5_1 ?_
  exact rd_iret S hr hlk dJx4a65c_size_8abf5_4 (congrArg (fun z => some (Value.int z)) (by first | rfl | (simp only [true_and, ne_eq, not_true_eq_false, not_false_eq_true, and_true, true_and, and_false, false_and, or_true, true_or, or_false, false_or, and_self, or_self, decide_eq_true_eq, ↓reduceIte]; done) | (simp [true_and]; done) | (simp only [true_and, ne_eq, not_true_eq_false, not_false_eq_true, and_true, true_and, and_false, false_and, or_true, true_or, or_false, false_or, and_self, or_self, decide_eq_true_eq, ↓reduceIte])))

theorem nmJx4a65c_isEmpty_aae02 : nmV yJx4a65c_isEmpty_aae02 RJx4a65c 0 := by decide +kernel

set_option maxHeartbeats 1000000 in
set_option maxRecDepth 100000 in
theorem c_Jx4a65c_isEmpty_aae02 (l : Launch) (G : GT) (H : Heap) (h a : Nat) (mcv n : Int32) (h1 : va_at G.1 vwCl (h, .inr (0, [.int mcv, .ref a, .int n])) H) : RdV l G H yJx4a65c_isEmpty_aae02 wsJx4a65c_isEmpty_aae02 { frames := 0, cells := 0, slots := 0, locals := 0 } [.ref h] (some (.int (b2i (n = 0)))) := by
  refine rd_of (cc := cJx4a65c_isEmpty_aae02) (maxL := 1) (ret := (some .boolean)) (by decide) rfl (Nat.le_of_ble_eq_true rfl) ?_
  intro pZ eZ sZ mZ bZ meZ cZ ls S hr hlk hl hHs hG
  have S : CallFix pZ mZ cZ cJx4a65c_isEmpty_aae02 1 sZ _ wsJx4a65c_isEmpty_aae02 RJx4a65c := S
  have hx := S.1
  have hb := S.2.1
  have hown := S.2.2.2.1
  have hts := S.2.2.2.2
  have hl : lv_has ls 1 [(0, .ref h)] := hl
  have w0 := hts (.fieldLink RJx4a65c 48 "java/util/ArrayList" "size" "I") (by decide +kernel)
  have iJx4a65c : ∀ w ∈ u_ws RJx4a65c TJx4a65c 3, w ∈ wsJx4a65c_isEmpty_aae02 := by decide +kernel
  refine lv_aload_n hx hb dJx4a65c_isEmpty_aae02_0 rfl (lv_at hl 0 rfl) ?_
  refine rd_get (own := RJx4a65c) (x := .int n) S hG.1 iJx4a65c h1 2 rfl (by decide) w0 rfl dJx4a65c_isEmpty_aae02_1 ?_
  refine lv_if_ne (tgt := 11) hx hb dJx4a65c_isEmpty_aae02_4 (by decide) (fun c1 => ?_) (fun c1 => ?_)
  · refine lv_iconst (v := 0) hx hb dJx4a65c_isEmpty_aae02_11 (by decide) ?_
    exact rd_zret S hr hlk dJx4a65c_isEmpty_aae02_12 (by first | rfl | exact nz_b2i _) (congrArg (fun z => some (Value.int z)) (by first | rfl | (simp only [b2i, c1, ne_eq, not_true_eq_false, not_false_eq_true, and_true, true_and, and_false, false_and, or_true, true_or, or_false, false_or, and_self, or_self, decide_eq_true_eq, ↓reduceIte]; done) | (simp [b2i, c1]; done) | (simp only [b2i, c1, ne_eq, not_true_eq_false, not_false_eq_true, and_true, true_and, and_false, false_and, or_true, true_or, or_false, false_or, and_self, or_self, decide_eq_true_eq, ↓reduceIte])))
  · refine lv_iconst (v := 1) hx hb dJx4a65c_isEmpty_aae02_7 (by decide) ?_
    refine lv_goto (tgt := 12) hx hb dJx4a65c_isEmpty_aae02_8 (by decide) ?_
    exact rd_zret S hr hlk dJx4a65c_isEmpty_aae02_12 (by first | rfl | exact nz_b2i _) (congrArg (fun z => some (Value.int z)) (by first | rfl | (simp only [b2i, c1, ne_eq, not_true_eq_false, not_false_eq_true, and_true, true_and, and_false, false_and, or_true, true_or, or_false, false_or, and_self, or_self, decide_eq_true_eq, ↓reduceIte]; done) | (simp [b2i, c1]; done) | (simp only [b2i, c1, ne_eq, not_true_eq_false, not_false_eq_true, and_true, true_and, and_false, false_and, or_true, true_or, or_false, false_or, and_self, or_self, decide_eq_true_eq, ↓reduceIte])))

