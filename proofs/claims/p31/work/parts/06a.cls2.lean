theorem nmX7_requireArgument : nmV yX7_requireArgument RX7 3 := by decide +kernel
set_option maxHeartbeats 4000000 in
set_option maxRecDepth 100000 in
theorem c_X7_requireArgument (l : Launch) (G : GT) (hlf : l.stackTraces = false) (H : Heap) (v lo hi : Int32) : RxV l G H yX7_requireArgument wsX7_requireArgument { frames := 6, cells := 1, slots := 6, locals := 82 } [.int v, .int lo, .int hi] (koArg v lo hi) (none) := by
  refine rx_of (cc := cX7_requireArgument) (maxL := 3) (ret := none) (by decide) rfl (Nat.le_of_ble_eq_true rfl) ?_
  intro pZ eZ sZ mZ bZ meZ cZ ls S hr hlk hxt hl hHs hG
  have S : CallFix pZ mZ cZ cX7_requireArgument 3 sZ _ wsX7_requireArgument RX7 := S
  have hx := S.1
  have hb := S.2.1
  have hown := S.2.2.2.1
  have hts := S.2.2.2.2
  have hl : lv_has ls 3 [(0, .int v), (1, .int lo), (2, .int hi)] := hl
  have hxk_IAE : Cond.classLink RX7 316 xIAE ∈ wsX7_requireArgument := by decide +kernel
  have hxi_IAE : Cond.initialized xIAE ∈ wsX7_requireArgument := by decide +kernel
  have hx1_IAE : ∀ w ∈ (vx_atS RX7 320 xIAE xUp).filter goodWord, w ∈ wsX7_requireArgument := by decide +kernel
  refine lv_iload_n hx hb dX7_requireArgument_0 rfl (lv_at hl 0 rfl) ?_
  refine lv_iload_n hx hb dX7_requireArgument_1 rfl (lv_at hl 1 rfl) ?_
  refine lv_icmp_lt (tgt := 10) hx hb dX7_requireArgument_2 (by decide) (fun c1 => ?_) (fun c1 => ?_)
  · have d1 := Int32.not_le.mpr c1
    exact rx_thW (text := "a number is out of its bounds") (rest := []) S hHs hlf hG hl.1 hxt hlk hxk_IAE hxi_IAE rfl (by decide) hx1_IAE at_IAE ot_IAE dX7_requireArgument_10 dX7_requireArgument_13 dX7_requireArgument_14 dX7_requireArgument_17 dX7_requireArgument_20 ⟨by decide, Nat.le_of_ble_eq_true rfl, Nat.le_of_ble_eq_true rfl, Nat.le_of_ble_eq_true rfl⟩ ⟨Nat.le_of_ble_eq_true rfl, Nat.le_of_ble_eq_true rfl⟩ (fun t hext => ⟨by first | rfl | (simp only [koArg, kOr, ne_eq, not_true_eq_false, not_false_eq_true, and_true, true_and, and_false, false_and, or_true, true_or, or_false, false_or, and_self, or_self, decide_eq_true_eq, ↓reduceIte]; done) | (simp only [koArg, c1, d1, kOr, ne_eq, not_true_eq_false, not_false_eq_true, and_true, true_and, and_false, false_and, or_true, true_or, or_false, false_or, and_self, or_self, decide_eq_true_eq, ↓reduceIte]; done) | (simp [koArg, c1, d1, kOr]; done) | (simp only [koArg, c1, d1, kOr, ne_eq, not_true_eq_false, not_false_eq_true, and_true, true_and, and_false, false_and, or_true, true_or, or_false, false_or, and_self, or_self, decide_eq_true_eq, ↓reduceIte]), hext⟩)
  · have d1 := Int32.not_lt.mp c1
    refine lv_iload_n hx hb dX7_requireArgument_5 rfl (lv_at hl 0 rfl) ?_
    refine lv_iload_n hx hb dX7_requireArgument_6 rfl (lv_at hl 2 rfl) ?_
    refine lv_icmp_le (tgt := 21) hx hb dX7_requireArgument_7 (by decide) (fun c2 => ?_) (fun c2 => ?_)
    · have d2 := Int32.not_lt.mpr c2
      exact rx_vret S hr hlk dX7_requireArgument_21 (by first | rfl | (simp only [koArg, kOr, ne_eq, not_true_eq_false, not_false_eq_true, and_true, true_and, and_false, false_and, or_true, true_or, or_false, false_or, and_self, or_self, decide_eq_true_eq, ↓reduceIte]; done) | (simp only [koArg, c1, d1, c2, d2, kOr, ne_eq, not_true_eq_false, not_false_eq_true, and_true, true_and, and_false, false_and, or_true, true_or, or_false, false_or, and_self, or_self, decide_eq_true_eq, ↓reduceIte]; done) | (simp [koArg, c1, d1, c2, d2, kOr]; done) | (simp only [koArg, c1, d1, c2, d2, kOr, ne_eq, not_true_eq_false, not_false_eq_true, and_true, true_and, and_false, false_and, or_true, true_or, or_false, false_or, and_self, or_self, decide_eq_true_eq, ↓reduceIte])) rfl
    · have d2 := Int32.not_le.mp c2
      exact rx_thW (text := "a number is out of its bounds") (rest := []) S hHs hlf hG hl.1 hxt hlk hxk_IAE hxi_IAE rfl (by decide) hx1_IAE at_IAE ot_IAE dX7_requireArgument_10 dX7_requireArgument_13 dX7_requireArgument_14 dX7_requireArgument_17 dX7_requireArgument_20 ⟨by decide, Nat.le_of_ble_eq_true rfl, Nat.le_of_ble_eq_true rfl, Nat.le_of_ble_eq_true rfl⟩ ⟨Nat.le_of_ble_eq_true rfl, Nat.le_of_ble_eq_true rfl⟩ (fun t hext => ⟨by first | rfl | (simp only [koArg, kOr, ne_eq, not_true_eq_false, not_false_eq_true, and_true, true_and, and_false, false_and, or_true, true_or, or_false, false_or, and_self, or_self, decide_eq_true_eq, ↓reduceIte]; done) | (simp only [koArg, c1, d1, c2, d2, kOr, ne_eq, not_true_eq_false, not_false_eq_true, and_true, true_and, and_false, false_and, or_true, true_or, or_false, false_or, and_self, or_self, decide_eq_true_eq, ↓reduceIte]; done) | (simp [koArg, c1, d1, c2, d2, kOr]; done) | (simp only [koArg, c1, d1, c2, d2, kOr, ne_eq, not_true_eq_false, not_false_eq_true, and_true, true_and, and_false, false_and, or_true, true_or, or_false, false_or, and_self, or_self, decide_eq_true_eq, ↓reduceIte]), hext⟩)
theorem nmX7_requireTop : nmV yX7_requireTop RX7 1 := by decide +kernel
set_option maxHeartbeats 4000000 in
set_option maxRecDepth 100000 in
theorem c_X7_requireTop (l : Launch) (G : GT) (hlf : l.stackTraces = false) (H : Heap) (t : Int32) : RxV l G H yX7_requireTop wsX7_requireTop { frames := 7, cells := 1, slots := 6, locals := 104 } [.int t] (koArg t 0 999) (none) := by
  refine rx_of (cc := cX7_requireTop) (maxL := 1) (ret := none) (by decide) rfl (Nat.le_of_ble_eq_true rfl) ?_
  intro pZ eZ sZ mZ bZ meZ cZ ls S hr hlk hxt hl hHs hG
  have S : CallFix pZ mZ cZ cX7_requireTop 1 sZ _ wsX7_requireTop RX7 := S
  have hx := S.1
  have hb := S.2.1
  have hown := S.2.2.2.1
  have hts := S.2.2.2.2
  have hl : lv_has ls 1 [(0, .int t)] := hl
  refine lv_iload_n hx hb dX7_requireTop_0 rfl (lv_at hl 0 rfl) ?_
  refine lv_iconst (v := 0) hx hb dX7_requireTop_1 (by decide) ?_
  refine lv_sipush (v := 999) hx hb dX7_requireTop_2 (by decide) ?_
  refine rx_S (As := [.int t, .int 0, .int 999]) (rest := []) (v := none) S hG (c_X7_requireArgument l G hlf H t 0 999) gX7_requireTop_X7_requireArgument rfl ⟨rfl, rfl⟩ nmX7_requireArgument ⟨Nat.le_of_ble_eq_true rfl, Nat.le_of_ble_eq_true rfl⟩ rfl hl.1 rfl (Nat.le_of_ble_eq_true rfl) ⟨Nat.le_of_ble_eq_true rfl, Nat.le_of_ble_eq_true rfl⟩ dX7_requireTop_5 hxt hlk ⟨Nat.le_of_ble_eq_true rfl, Nat.le_of_ble_eq_true rfl⟩ (fun E t hE hext => ⟨by first | rfl | (simp only [hE, kOr, ne_eq, not_true_eq_false, not_false_eq_true, and_true, true_and, and_false, false_and, or_true, true_or, or_false, false_or, and_self, or_self, decide_eq_true_eq, ↓reduceIte]; done) | (simp only [hE, kOr, ne_eq, not_true_eq_false, not_false_eq_true, and_true, true_and, and_false, false_and, or_true, true_or, or_false, false_or, and_self, or_self, decide_eq_true_eq, ↓reduceIte]; done) | (simp [hE, kOr]; done) | (simp only [hE, kOr, ne_eq, not_true_eq_false, not_false_eq_true, and_true, true_and, and_false, false_and, or_true, true_or, or_false, false_or, and_self, or_self, decide_eq_true_eq, ↓reduceIte]), hext⟩) (fun k1 => ?_)
  refine W.eq (g2 := F0 mZ 8 ls []) rfl ?_
  exact rx_vret S hr hlk dX7_requireTop_8 (by first | rfl | (simp only [k1, kOr, ne_eq, not_true_eq_false, not_false_eq_true, and_true, true_and, and_false, false_and, or_true, true_or, or_false, false_or, and_self, or_self, decide_eq_true_eq, ↓reduceIte]; done) | (simp only [k1, kOr, ne_eq, not_true_eq_false, not_false_eq_true, and_true, true_and, and_false, false_and, or_true, true_or, or_false, false_or, and_self, or_self, decide_eq_true_eq, ↓reduceIte]; done) | (simp [k1, kOr]; done) | (simp only [k1, kOr, ne_eq, not_true_eq_false, not_false_eq_true, and_true, true_and, and_false, false_and, or_true, true_or, or_false, false_or, and_self, or_self, decide_eq_true_eq, ↓reduceIte])) rfl
theorem nmX7_requireDay : nmV yX7_requireDay RX7 1 := by decide +kernel
set_option maxHeartbeats 4000000 in
set_option maxRecDepth 100000 in
theorem c_X7_requireDay (l : Launch) (G : GT) (hlf : l.stackTraces = false) (H : Heap) (d : Int32) : RxV l G H yX7_requireDay wsX7_requireDay { frames := 7, cells := 1, slots := 6, locals := 104 } [.int d] (koArg d 0 399) (none) := by
  refine rx_of (cc := cX7_requireDay) (maxL := 1) (ret := none) (by decide) rfl (Nat.le_of_ble_eq_true rfl) ?_
  intro pZ eZ sZ mZ bZ meZ cZ ls S hr hlk hxt hl hHs hG
  have S : CallFix pZ mZ cZ cX7_requireDay 1 sZ _ wsX7_requireDay RX7 := S
  have hx := S.1
  have hb := S.2.1
  have hown := S.2.2.2.1
  have hts := S.2.2.2.2
  have hl : lv_has ls 1 [(0, .int d)] := hl
  refine lv_iload_n hx hb dX7_requireDay_0 rfl (lv_at hl 0 rfl) ?_
  refine lv_iconst (v := 0) hx hb dX7_requireDay_1 (by decide) ?_
  refine lv_sipush (v := 399) hx hb dX7_requireDay_2 (by decide) ?_
  refine rx_S (As := [.int d, .int 0, .int 399]) (rest := []) (v := none) S hG (c_X7_requireArgument l G hlf H d 0 399) gX7_requireDay_X7_requireArgument rfl ⟨rfl, rfl⟩ nmX7_requireArgument ⟨Nat.le_of_ble_eq_true rfl, Nat.le_of_ble_eq_true rfl⟩ rfl hl.1 rfl (Nat.le_of_ble_eq_true rfl) ⟨Nat.le_of_ble_eq_true rfl, Nat.le_of_ble_eq_true rfl⟩ dX7_requireDay_5 hxt hlk ⟨Nat.le_of_ble_eq_true rfl, Nat.le_of_ble_eq_true rfl⟩ (fun E t hE hext => ⟨by first | rfl | (simp only [hE, kOr, ne_eq, not_true_eq_false, not_false_eq_true, and_true, true_and, and_false, false_and, or_true, true_or, or_false, false_or, and_self, or_self, decide_eq_true_eq, ↓reduceIte]; done) | (simp only [hE, kOr, ne_eq, not_true_eq_false, not_false_eq_true, and_true, true_and, and_false, false_and, or_true, true_or, or_false, false_or, and_self, or_self, decide_eq_true_eq, ↓reduceIte]; done) | (simp [hE, kOr]; done) | (simp only [hE, kOr, ne_eq, not_true_eq_false, not_false_eq_true, and_true, true_and, and_false, false_and, or_true, true_or, or_false, false_or, and_self, or_self, decide_eq_true_eq, ↓reduceIte]), hext⟩) (fun k1 => ?_)
  refine W.eq (g2 := F0 mZ 8 ls []) rfl ?_
  exact rx_vret S hr hlk dX7_requireDay_8 (by first | rfl | (simp only [k1, kOr, ne_eq, not_true_eq_false, not_false_eq_true, and_true, true_and, and_false, false_and, or_true, true_or, or_false, false_or, and_self, or_self, decide_eq_true_eq, ↓reduceIte]; done) | (simp only [k1, kOr, ne_eq, not_true_eq_false, not_false_eq_true, and_true, true_and, and_false, false_and, or_true, true_or, or_false, false_or, and_self, or_self, decide_eq_true_eq, ↓reduceIte]; done) | (simp [k1, kOr]; done) | (simp only [k1, kOr, ne_eq, not_true_eq_false, not_false_eq_true, and_true, true_and, and_false, false_and, or_true, true_or, or_false, false_or, and_self, or_self, decide_eq_true_eq, ↓reduceIte])) rfl
theorem nmX7_requireCategory : nmV yX7_requireCategory RX7 1 := by decide +kernel
set_option maxHeartbeats 4000000 in
set_option maxRecDepth 100000 in
theorem c_X7_requireCategory (l : Launch) (G : GT) (hlf : l.stackTraces = false) (H : Heap) (ca : Int32) : RxV l G H yX7_requireCategory wsX7_requireCategory { frames := 7, cells := 1, slots := 6, locals := 104 } [.int ca] (koArg ca 0 3) (none) := by
  refine rx_of (cc := cX7_requireCategory) (maxL := 1) (ret := none) (by decide) rfl (Nat.le_of_ble_eq_true rfl) ?_
  intro pZ eZ sZ mZ bZ meZ cZ ls S hr hlk hxt hl hHs hG
  have S : CallFix pZ mZ cZ cX7_requireCategory 1 sZ _ wsX7_requireCategory RX7 := S
  have hx := S.1
  have hb := S.2.1
  have hown := S.2.2.2.1
  have hts := S.2.2.2.2
  have hl : lv_has ls 1 [(0, .int ca)] := hl
  refine lv_iload_n hx hb dX7_requireCategory_0 rfl (lv_at hl 0 rfl) ?_
  refine lv_iconst (v := 0) hx hb dX7_requireCategory_1 (by decide) ?_
  refine lv_iconst (v := 3) hx hb dX7_requireCategory_2 (by decide) ?_
  refine rx_S (As := [.int ca, .int 0, .int 3]) (rest := []) (v := none) S hG (c_X7_requireArgument l G hlf H ca 0 3) gX7_requireCategory_X7_requireArgument rfl ⟨rfl, rfl⟩ nmX7_requireArgument ⟨Nat.le_of_ble_eq_true rfl, Nat.le_of_ble_eq_true rfl⟩ rfl hl.1 rfl (Nat.le_of_ble_eq_true rfl) ⟨Nat.le_of_ble_eq_true rfl, Nat.le_of_ble_eq_true rfl⟩ dX7_requireCategory_3 hxt hlk ⟨Nat.le_of_ble_eq_true rfl, Nat.le_of_ble_eq_true rfl⟩ (fun E t hE hext => ⟨by first | rfl | (simp only [hE, kOr, ne_eq, not_true_eq_false, not_false_eq_true, and_true, true_and, and_false, false_and, or_true, true_or, or_false, false_or, and_self, or_self, decide_eq_true_eq, ↓reduceIte]; done) | (simp only [hE, kOr, ne_eq, not_true_eq_false, not_false_eq_true, and_true, true_and, and_false, false_and, or_true, true_or, or_false, false_or, and_self, or_self, decide_eq_true_eq, ↓reduceIte]; done) | (simp [hE, kOr]; done) | (simp only [hE, kOr, ne_eq, not_true_eq_false, not_false_eq_true, and_true, true_and, and_false, false_and, or_true, true_or, or_false, false_or, and_self, or_self, decide_eq_true_eq, ↓reduceIte]), hext⟩) (fun k1 => ?_)
  refine W.eq (g2 := F0 mZ 6 ls []) rfl ?_
  exact rx_vret S hr hlk dX7_requireCategory_6 (by first | rfl | (simp only [k1, kOr, ne_eq, not_true_eq_false, not_false_eq_true, and_true, true_and, and_false, false_and, or_true, true_or, or_false, false_or, and_self, or_self, decide_eq_true_eq, ↓reduceIte]; done) | (simp only [k1, kOr, ne_eq, not_true_eq_false, not_false_eq_true, and_true, true_and, and_false, false_and, or_true, true_or, or_false, false_or, and_self, or_self, decide_eq_true_eq, ↓reduceIte]; done) | (simp [k1, kOr]; done) | (simp only [k1, kOr, ne_eq, not_true_eq_false, not_false_eq_true, and_true, true_and, and_false, false_and, or_true, true_or, or_false, false_or, and_self, or_self, decide_eq_true_eq, ↓reduceIte])) rfl
theorem nmX7_requireAid : nmV yX7_requireAid RX7 1 := by decide +kernel
set_option maxHeartbeats 4000000 in
set_option maxRecDepth 100000 in
theorem c_X7_requireAid (l : Launch) (G : GT) (hlf : l.stackTraces = false) (H : Heap) (i : Int32) : RxV l G H yX7_requireAid wsX7_requireAid { frames := 6, cells := 1, slots := 6, locals := 82 } [.int i] (koIx i 3) (none) := by
  refine rx_of (cc := cX7_requireAid) (maxL := 1) (ret := none) (by decide) rfl (Nat.le_of_ble_eq_true rfl) ?_
  intro pZ eZ sZ mZ bZ meZ cZ ls S hr hlk hxt hl hHs hG
  have S : CallFix pZ mZ cZ cX7_requireAid 1 sZ _ wsX7_requireAid RX7 := S
  have hx := S.1
  have hb := S.2.1
  have hown := S.2.2.2.1
  have hts := S.2.2.2.2
  have hl : lv_has ls 1 [(0, .int i)] := hl
  have hxk_IOB : Cond.classLink RX7 301 xIOB ∈ wsX7_requireAid := by decide +kernel
  have hxi_IOB : Cond.initialized xIOB ∈ wsX7_requireAid := by decide +kernel
  have hx1_IOB : ∀ w ∈ (vx_atS RX7 305 xIOB xUp).filter goodWord, w ∈ wsX7_requireAid := by decide +kernel
  refine lv_iload_n hx hb dX7_requireAid_0 rfl (lv_at hl 0 rfl) ?_
  refine lv_if_lt (tgt := 9) hx hb dX7_requireAid_1 (by decide) (fun c1 => ?_) (fun c1 => ?_)
  · have d1 := Int32.not_le.mpr c1
    exact rx_thW (text := "no such aid") (rest := []) S hHs hlf hG hl.1 hxt hlk hxk_IOB hxi_IOB rfl (by decide) hx1_IOB at_IOB ot_IOB dX7_requireAid_9 dX7_requireAid_12 dX7_requireAid_13 dX7_requireAid_16 dX7_requireAid_19 ⟨by decide, Nat.le_of_ble_eq_true rfl, Nat.le_of_ble_eq_true rfl, Nat.le_of_ble_eq_true rfl⟩ ⟨Nat.le_of_ble_eq_true rfl, Nat.le_of_ble_eq_true rfl⟩ (fun t hext => ⟨by first | rfl | (simp only [koIx, show nI 3 = 3 from rfl, kOr, ne_eq, not_true_eq_false, not_false_eq_true, and_true, true_and, and_false, false_and, or_true, true_or, or_false, false_or, and_self, or_self, decide_eq_true_eq, ↓reduceIte]; done) | (simp only [koIx, show nI 3 = 3 from rfl, c1, d1, kOr, ne_eq, not_true_eq_false, not_false_eq_true, and_true, true_and, and_false, false_and, or_true, true_or, or_false, false_or, and_self, or_self, decide_eq_true_eq, ↓reduceIte]; done) | (simp [koIx, show nI 3 = 3 from rfl, c1, d1, kOr]; done) | (simp only [koIx, show nI 3 = 3 from rfl, c1, d1, kOr, ne_eq, not_true_eq_false, not_false_eq_true, and_true, true_and, and_false, false_and, or_true, true_or, or_false, false_or, and_self, or_self, decide_eq_true_eq, ↓reduceIte]), hext⟩)
  · have d1 := Int32.not_lt.mp c1
    refine lv_iload_n hx hb dX7_requireAid_4 rfl (lv_at hl 0 rfl) ?_
    refine lv_iconst (v := 3) hx hb dX7_requireAid_5 (by decide) ?_
    refine lv_icmp_lt (tgt := 20) hx hb dX7_requireAid_6 (by decide) (fun c2 => ?_) (fun c2 => ?_)
    · have d2 := Int32.not_le.mpr c2
      exact rx_vret S hr hlk dX7_requireAid_20 (by first | rfl | (simp only [koIx, show nI 3 = 3 from rfl, kOr, ne_eq, not_true_eq_false, not_false_eq_true, and_true, true_and, and_false, false_and, or_true, true_or, or_false, false_or, and_self, or_self, decide_eq_true_eq, ↓reduceIte]; done) | (simp only [koIx, show nI 3 = 3 from rfl, c1, d1, c2, d2, kOr, ne_eq, not_true_eq_false, not_false_eq_true, and_true, true_and, and_false, false_and, or_true, true_or, or_false, false_or, and_self, or_self, decide_eq_true_eq, ↓reduceIte]; done) | (simp [koIx, show nI 3 = 3 from rfl, c1, d1, c2, d2, kOr]; done) | (simp only [koIx, show nI 3 = 3 from rfl, c1, d1, c2, d2, kOr, ne_eq, not_true_eq_false, not_false_eq_true, and_true, true_and, and_false, false_and, or_true, true_or, or_false, false_or, and_self, or_self, decide_eq_true_eq, ↓reduceIte])) rfl
    · have d2 := Int32.not_lt.mp c2
      exact rx_thW (text := "no such aid") (rest := []) S hHs hlf hG hl.1 hxt hlk hxk_IOB hxi_IOB rfl (by decide) hx1_IOB at_IOB ot_IOB dX7_requireAid_9 dX7_requireAid_12 dX7_requireAid_13 dX7_requireAid_16 dX7_requireAid_19 ⟨by decide, Nat.le_of_ble_eq_true rfl, Nat.le_of_ble_eq_true rfl, Nat.le_of_ble_eq_true rfl⟩ ⟨Nat.le_of_ble_eq_true rfl, Nat.le_of_ble_eq_true rfl⟩ (fun t hext => ⟨by first | rfl | (simp only [koIx, show nI 3 = 3 from rfl, kOr, ne_eq, not_true_eq_false, not_false_eq_true, and_true, true_and, and_false, false_and, or_true, true_or, or_false, false_or, and_self, or_self, decide_eq_true_eq, ↓reduceIte]; done) | (simp only [koIx, show nI 3 = 3 from rfl, c1, d1, c2, d2, kOr, ne_eq, not_true_eq_false, not_false_eq_true, and_true, true_and, and_false, false_and, or_true, true_or, or_false, false_or, and_self, or_self, decide_eq_true_eq, ↓reduceIte]; done) | (simp [koIx, show nI 3 = 3 from rfl, c1, d1, c2, d2, kOr]; done) | (simp only [koIx, show nI 3 = 3 from rfl, c1, d1, c2, d2, kOr, ne_eq, not_true_eq_false, not_false_eq_true, and_true, true_and, and_false, false_and, or_true, true_or, or_false, false_or, and_self, or_self, decide_eq_true_eq, ↓reduceIte]), hext⟩)
theorem nmX7_requireCrew : nmV yX7_requireCrew RX7 1 := by decide +kernel
set_option maxHeartbeats 4000000 in
set_option maxRecDepth 100000 in
theorem c_X7_requireCrew (l : Launch) (G : GT) (hlf : l.stackTraces = false) (H : Heap) (i : Int32) : RxV l G H yX7_requireCrew wsX7_requireCrew { frames := 6, cells := 1, slots := 6, locals := 82 } [.int i] (koIx i 4) (none) := by
  refine rx_of (cc := cX7_requireCrew) (maxL := 1) (ret := none) (by decide) rfl (Nat.le_of_ble_eq_true rfl) ?_
  intro pZ eZ sZ mZ bZ meZ cZ ls S hr hlk hxt hl hHs hG
  have S : CallFix pZ mZ cZ cX7_requireCrew 1 sZ _ wsX7_requireCrew RX7 := S
  have hx := S.1
  have hb := S.2.1
  have hown := S.2.2.2.1
  have hts := S.2.2.2.2
  have hl : lv_has ls 1 [(0, .int i)] := hl
  have hxk_IOB : Cond.classLink RX7 301 xIOB ∈ wsX7_requireCrew := by decide +kernel
  have hxi_IOB : Cond.initialized xIOB ∈ wsX7_requireCrew := by decide +kernel
  have hx1_IOB : ∀ w ∈ (vx_atS RX7 305 xIOB xUp).filter goodWord, w ∈ wsX7_requireCrew := by decide +kernel
  refine lv_iload_n hx hb dX7_requireCrew_0 rfl (lv_at hl 0 rfl) ?_
  refine lv_if_lt (tgt := 9) hx hb dX7_requireCrew_1 (by decide) (fun c1 => ?_) (fun c1 => ?_)
  · have d1 := Int32.not_le.mpr c1
    exact rx_thW (text := "no such crew") (rest := []) S hHs hlf hG hl.1 hxt hlk hxk_IOB hxi_IOB rfl (by decide) hx1_IOB at_IOB ot_IOB dX7_requireCrew_9 dX7_requireCrew_12 dX7_requireCrew_13 dX7_requireCrew_16 dX7_requireCrew_19 ⟨by decide, Nat.le_of_ble_eq_true rfl, Nat.le_of_ble_eq_true rfl, Nat.le_of_ble_eq_true rfl⟩ ⟨Nat.le_of_ble_eq_true rfl, Nat.le_of_ble_eq_true rfl⟩ (fun t hext => ⟨by first | rfl | (simp only [koIx, show nI 4 = 4 from rfl, kOr, ne_eq, not_true_eq_false, not_false_eq_true, and_true, true_and, and_false, false_and, or_true, true_or, or_false, false_or, and_self, or_self, decide_eq_true_eq, ↓reduceIte]; done) | (simp only [koIx, show nI 4 = 4 from rfl, c1, d1, kOr, ne_eq, not_true_eq_false, not_false_eq_true, and_true, true_and, and_false, false_and, or_true, true_or, or_false, false_or, and_self, or_self, decide_eq_true_eq, ↓reduceIte]; done) | (simp [koIx, show nI 4 = 4 from rfl, c1, d1, kOr]; done) | (simp only [koIx, show nI 4 = 4 from rfl, c1, d1, kOr, ne_eq, not_true_eq_false, not_false_eq_true, and_true, true_and, and_false, false_and, or_true, true_or, or_false, false_or, and_self, or_self, decide_eq_true_eq, ↓reduceIte]), hext⟩)
  · have d1 := Int32.not_lt.mp c1
    refine lv_iload_n hx hb dX7_requireCrew_4 rfl (lv_at hl 0 rfl) ?_
    refine lv_iconst (v := 4) hx hb dX7_requireCrew_5 (by decide) ?_
    refine lv_icmp_lt (tgt := 20) hx hb dX7_requireCrew_6 (by decide) (fun c2 => ?_) (fun c2 => ?_)
    · have d2 := Int32.not_le.mpr c2
      exact rx_vret S hr hlk dX7_requireCrew_20 (by first | rfl | (simp only [koIx, show nI 4 = 4 from rfl, kOr, ne_eq, not_true_eq_false, not_false_eq_true, and_true, true_and, and_false, false_and, or_true, true_or, or_false, false_or, and_self, or_self, decide_eq_true_eq, ↓reduceIte]; done) | (simp only [koIx, show nI 4 = 4 from rfl, c1, d1, c2, d2, kOr, ne_eq, not_true_eq_false, not_false_eq_true, and_true, true_and, and_false, false_and, or_true, true_or, or_false, false_or, and_self, or_self, decide_eq_true_eq, ↓reduceIte]; done) | (simp [koIx, show nI 4 = 4 from rfl, c1, d1, c2, d2, kOr]; done) | (simp only [koIx, show nI 4 = 4 from rfl, c1, d1, c2, d2, kOr, ne_eq, not_true_eq_false, not_false_eq_true, and_true, true_and, and_false, false_and, or_true, true_or, or_false, false_or, and_self, or_self, decide_eq_true_eq, ↓reduceIte])) rfl
    · have d2 := Int32.not_lt.mp c2
      exact rx_thW (text := "no such crew") (rest := []) S hHs hlf hG hl.1 hxt hlk hxk_IOB hxi_IOB rfl (by decide) hx1_IOB at_IOB ot_IOB dX7_requireCrew_9 dX7_requireCrew_12 dX7_requireCrew_13 dX7_requireCrew_16 dX7_requireCrew_19 ⟨by decide, Nat.le_of_ble_eq_true rfl, Nat.le_of_ble_eq_true rfl, Nat.le_of_ble_eq_true rfl⟩ ⟨Nat.le_of_ble_eq_true rfl, Nat.le_of_ble_eq_true rfl⟩ (fun t hext => ⟨by first | rfl | (simp only [koIx, show nI 4 = 4 from rfl, kOr, ne_eq, not_true_eq_false, not_false_eq_true, and_true, true_and, and_false, false_and, or_true, true_or, or_false, false_or, and_self, or_self, decide_eq_true_eq, ↓reduceIte]; done) | (simp only [koIx, show nI 4 = 4 from rfl, c1, d1, c2, d2, kOr, ne_eq, not_true_eq_false, not_false_eq_true, and_true, true_and, and_false, false_and, or_true, true_or, or_false, false_or, and_self, or_self, decide_eq_true_eq, ↓reduceIte]; done) | (simp [koIx, show nI 4 = 4 from rfl, c1, d1, c2, d2, kOr]; done) | (simp only [koIx, show nI 4 = 4 from rfl, c1, d1, c2, d2, kOr, ne_eq, not_true_eq_false, not_false_eq_true, and_true, true_and, and_false, false_and, or_true, true_or, or_false, false_or, and_self, or_self, decide_eq_true_eq, ↓reduceIte]), hext⟩)
theorem nmX7_requirePlace : nmV yX7_requirePlace RX7 4 := by decide +kernel
set_option maxHeartbeats 4000000 in
set_option maxRecDepth 100000 in
theorem c_X7_requirePlace (l : Launch) (G : GT) (hlf : l.stackTraces = false) (H : Heap) (x y a b : Int32) : RxV l G H yX7_requirePlace wsX7_requirePlace { frames := 8, cells := 1, slots := 6, locals := 124 } [.int x, .int y, .int a, .int b] (koPl x y a b) (none) := by
  refine rx_of (cc := cX7_requirePlace) (maxL := 4) (ret := none) (by decide) rfl (Nat.le_of_ble_eq_true rfl) ?_
  intro pZ eZ sZ mZ bZ meZ cZ ls S hr hlk hxt hl hHs hG
  have S : CallFix pZ mZ cZ cX7_requirePlace 4 sZ _ wsX7_requirePlace RX7 := S
  have hx := S.1
  have hb := S.2.1
  have hown := S.2.2.2.1
  have hts := S.2.2.2.2
  have hl : lv_has ls 4 [(0, .int x), (1, .int y), (2, .int a), (3, .int b)] := hl
  refine lv_iload_n hx hb dX7_requirePlace_0 rfl (lv_at hl 0 rfl) ?_
  refine lv_bipush (v := (-20)) hx hb dX7_requirePlace_1 (by decide) ?_
  refine lv_bipush (v := 60) hx hb dX7_requirePlace_3 (by decide) ?_
  refine rx_S (As := [.int x, .int (-20), .int 60]) (rest := []) (v := none) S hG (c_X7_requireArgument l G hlf H x (-20) 60) gX7_requirePlace_X7_requireArgument rfl ⟨rfl, rfl⟩ nmX7_requireArgument ⟨Nat.le_of_ble_eq_true rfl, Nat.le_of_ble_eq_true rfl⟩ rfl hl.1 rfl (Nat.le_of_ble_eq_true rfl) ⟨Nat.le_of_ble_eq_true rfl, Nat.le_of_ble_eq_true rfl⟩ dX7_requirePlace_5 hxt hlk ⟨Nat.le_of_ble_eq_true rfl, Nat.le_of_ble_eq_true rfl⟩ (fun E t hE hext => ⟨by first | rfl | (simp only [koPl, hE, kOr, ne_eq, not_true_eq_false, not_false_eq_true, and_true, true_and, and_false, false_and, or_true, true_or, or_false, false_or, and_self, or_self, decide_eq_true_eq, ↓reduceIte]; done) | (simp only [koPl, hE, kOr, ne_eq, not_true_eq_false, not_false_eq_true, and_true, true_and, and_false, false_and, or_true, true_or, or_false, false_or, and_self, or_self, decide_eq_true_eq, ↓reduceIte]; done) | (simp [koPl, hE, kOr]; done) | (simp only [koPl, hE, kOr, ne_eq, not_true_eq_false, not_false_eq_true, and_true, true_and, and_false, false_and, or_true, true_or, or_false, false_or, and_self, or_self, decide_eq_true_eq, ↓reduceIte]), hext⟩) (fun k1 => ?_)
  refine W.eq (g2 := F0 mZ 8 ls []) rfl ?_
  refine lv_iload_n hx hb dX7_requirePlace_8 rfl (lv_at hl 1 rfl) ?_
  refine lv_bipush (v := (-9)) hx hb dX7_requirePlace_9 (by decide) ?_
  refine lv_bipush (v := 9) hx hb dX7_requirePlace_11 (by decide) ?_
  refine rx_S (As := [.int y, .int (-9), .int 9]) (rest := []) (v := none) S hG (c_X7_requireArgument l G hlf H y (-9) 9) gX7_requirePlace_X7_requireArgument rfl ⟨rfl, rfl⟩ nmX7_requireArgument ⟨Nat.le_of_ble_eq_true rfl, Nat.le_of_ble_eq_true rfl⟩ rfl hl.1 rfl (Nat.le_of_ble_eq_true rfl) ⟨Nat.le_of_ble_eq_true rfl, Nat.le_of_ble_eq_true rfl⟩ dX7_requirePlace_13 hxt hlk ⟨Nat.le_of_ble_eq_true rfl, Nat.le_of_ble_eq_true rfl⟩ (fun E t hE hext => ⟨by first | rfl | (simp only [koPl, k1, hE, kOr, ne_eq, not_true_eq_false, not_false_eq_true, and_true, true_and, and_false, false_and, or_true, true_or, or_false, false_or, and_self, or_self, decide_eq_true_eq, ↓reduceIte]; done) | (simp only [koPl, k1, hE, kOr, ne_eq, not_true_eq_false, not_false_eq_true, and_true, true_and, and_false, false_and, or_true, true_or, or_false, false_or, and_self, or_self, decide_eq_true_eq, ↓reduceIte]; done) | (simp [koPl, k1, hE, kOr]; done) | (simp only [koPl, k1, hE, kOr, ne_eq, not_true_eq_false, not_false_eq_true, and_true, true_and, and_false, false_and, or_true, true_or, or_false, false_or, and_self, or_self, decide_eq_true_eq, ↓reduceIte]), hext⟩) (fun k2 => ?_)
  refine W.eq (g2 := F0 mZ 16 ls []) rfl ?_
  refine lv_iload_n hx hb dX7_requirePlace_16 rfl (lv_at hl 2 rfl) ?_
  refine rx_S (As := [.int a]) (rest := []) (v := none) S hG (c_X7_requireDay l G hlf H a) gX7_requirePlace_X7_requireDay rfl ⟨rfl, rfl⟩ nmX7_requireDay ⟨Nat.le_of_ble_eq_true rfl, Nat.le_of_ble_eq_true rfl⟩ rfl hl.1 rfl (Nat.le_of_ble_eq_true rfl) ⟨Nat.le_of_ble_eq_true rfl, Nat.le_of_ble_eq_true rfl⟩ dX7_requirePlace_17 hxt hlk ⟨Nat.le_of_ble_eq_true rfl, Nat.le_of_ble_eq_true rfl⟩ (fun E t hE hext => ⟨by first | rfl | (simp only [koPl, k1, k2, hE, kOr, ne_eq, not_true_eq_false, not_false_eq_true, and_true, true_and, and_false, false_and, or_true, true_or, or_false, false_or, and_self, or_self, decide_eq_true_eq, ↓reduceIte]; done) | (simp only [koPl, k1, k2, hE, kOr, ne_eq, not_true_eq_false, not_false_eq_true, and_true, true_and, and_false, false_and, or_true, true_or, or_false, false_or, and_self, or_self, decide_eq_true_eq, ↓reduceIte]; done) | (simp [koPl, k1, k2, hE, kOr]; done) | (simp only [koPl, k1, k2, hE, kOr, ne_eq, not_true_eq_false, not_false_eq_true, and_true, true_and, and_false, false_and, or_true, true_or, or_false, false_or, and_self, or_self, decide_eq_true_eq, ↓reduceIte]), hext⟩) (fun k3 => ?_)
  refine W.eq (g2 := F0 mZ 20 ls []) rfl ?_
  refine lv_iload_n hx hb dX7_requirePlace_20 rfl (lv_at hl 3 rfl) ?_
  refine lv_iconst (v := (-1)) hx hb dX7_requirePlace_21 (by decide) ?_
  refine lv_icmp_eq (tgt := 33) hx hb dX7_requirePlace_22 (by decide) (fun c4 => ?_) (fun c4 => ?_)
  · exact rx_vret S hr hlk dX7_requirePlace_33 (by first | rfl | (simp only [koPl, k1, k2, k3, kOr, ne_eq, not_true_eq_false, not_false_eq_true, and_true, true_and, and_false, false_and, or_true, true_or, or_false, false_or, and_self, or_self, decide_eq_true_eq, ↓reduceIte]; done) | (simp only [koPl, k1, k2, k3, c4, kOr, ne_eq, not_true_eq_false, not_false_eq_true, and_true, true_and, and_false, false_and, or_true, true_or, or_false, false_or, and_self, or_self, decide_eq_true_eq, ↓reduceIte]; done) | (simp [koPl, k1, k2, k3, c4, kOr]; done) | (simp only [koPl, k1, k2, k3, c4, kOr, ne_eq, not_true_eq_false, not_false_eq_true, and_true, true_and, and_false, false_and, or_true, true_or, or_false, false_or, and_self, or_self, decide_eq_true_eq, ↓reduceIte])) rfl
  · refine lv_iload_n hx hb dX7_requirePlace_25 rfl (lv_at hl 3 rfl) ?_
    refine lv_iload_n hx hb dX7_requirePlace_26 rfl (lv_at hl 2 rfl) ?_
    refine lv_sipush (v := 399) hx hb dX7_requirePlace_27 (by decide) ?_
    refine rx_S (As := [.int b, .int a, .int 399]) (rest := []) (v := none) S hG (c_X7_requireArgument l G hlf H b a 399) gX7_requirePlace_X7_requireArgument rfl ⟨rfl, rfl⟩ nmX7_requireArgument ⟨Nat.le_of_ble_eq_true rfl, Nat.le_of_ble_eq_true rfl⟩ rfl hl.1 rfl (Nat.le_of_ble_eq_true rfl) ⟨Nat.le_of_ble_eq_true rfl, Nat.le_of_ble_eq_true rfl⟩ dX7_requirePlace_30 hxt hlk ⟨Nat.le_of_ble_eq_true rfl, Nat.le_of_ble_eq_true rfl⟩ (fun E t hE hext => ⟨by first | rfl | (simp only [koPl, k1, k2, k3, hE, kOr, ne_eq, not_true_eq_false, not_false_eq_true, and_true, true_and, and_false, false_and, or_true, true_or, or_false, false_or, and_self, or_self, decide_eq_true_eq, ↓reduceIte]; done) | (simp only [koPl, k1, k2, k3, c4, hE, kOr, ne_eq, not_true_eq_false, not_false_eq_true, and_true, true_and, and_false, false_and, or_true, true_or, or_false, false_or, and_self, or_self, decide_eq_true_eq, ↓reduceIte]; done) | (simp [koPl, k1, k2, k3, c4, hE, kOr]; done) | (simp only [koPl, k1, k2, k3, c4, hE, kOr, ne_eq, not_true_eq_false, not_false_eq_true, and_true, true_and, and_false, false_and, or_true, true_or, or_false, false_or, and_self, or_self, decide_eq_true_eq, ↓reduceIte]), hext⟩) (fun k5 => ?_)
    refine W.eq (g2 := F0 mZ 33 ls []) rfl ?_
    exact rx_vret S hr hlk dX7_requirePlace_33 (by first | rfl | (simp only [koPl, k1, k2, k3, k5, kOr, ne_eq, not_true_eq_false, not_false_eq_true, and_true, true_and, and_false, false_and, or_true, true_or, or_false, false_or, and_self, or_self, decide_eq_true_eq, ↓reduceIte]; done) | (simp only [koPl, k1, k2, k3, c4, k5, kOr, ne_eq, not_true_eq_false, not_false_eq_true, and_true, true_and, and_false, false_and, or_true, true_or, or_false, false_or, and_self, or_self, decide_eq_true_eq, ↓reduceIte]; done) | (simp [koPl, k1, k2, k3, c4, k5, kOr]; done) | (simp only [koPl, k1, k2, k3, c4, k5, kOr, ne_eq, not_true_eq_false, not_false_eq_true, and_true, true_and, and_false, false_and, or_true, true_or, or_false, false_or, and_self, or_self, decide_eq_true_eq, ↓reduceIte])) rfl
theorem nmX7_requireObstacle : nmV yX7_requireObstacle RX7 1 := by decide +kernel
set_option maxHeartbeats 4000000 in
set_option maxRecDepth 100000 in
theorem c_X7_requireObstacle (l : Launch) (G : GT) (hlf : l.stackTraces = false) (A : Nat → Nat) (f : Nat → Nat → Int32) (g : Nat → Nat) (H : Heap) (hR : RP G A f g H) (i : Int32) : RxV l G H yX7_requireObstacle wsX7_requireObstacle { frames := 6, cells := 1, slots := 6, locals := 82 } [.ref (A 0), .int i] (koIx i (g 1)) (none) := by
  refine rx_of (cc := cX7_requireObstacle) (maxL := 2) (ret := none) (by decide) rfl (Nat.le_of_ble_eq_true rfl) ?_
  intro pZ eZ sZ mZ bZ meZ cZ ls S hr hlk hxt hl hHs hG
  have S : CallFix pZ mZ cZ cX7_requireObstacle 2 sZ _ wsX7_requireObstacle RX7 := S
  have hx := S.1
  have hb := S.2.1
  have hown := S.2.2.2.1
  have hts := S.2.2.2.2
  have hl : lv_has ls 2 [(0, .ref (A 0)), (1, .int i)] := hl
  have w0 := hts (.fieldLink RX7 10 "MinimaRoom" "obstacles" "LMinimaRoom$Obstacles;") (by decide +kernel)
  have iX7 : ∀ w ∈ u_ws RX7 TX7 8, w ∈ wsX7_requireObstacle := by decide +kernel
  have iX4 : ∀ w ∈ u_ws RX4 TX4 6, w ∈ wsX7_requireObstacle := by decide +kernel
  have hxk_IOB : Cond.classLink RX7 301 xIOB ∈ wsX7_requireObstacle := by decide +kernel
  have hxi_IOB : Cond.initialized xIOB ∈ wsX7_requireObstacle := by decide +kernel
  have hx1_IOB : ∀ w ∈ (vx_atS RX7 305 xIOB xUp).filter goodWord, w ∈ wsX7_requireObstacle := by decide +kernel
  have hgb := hR.1
  refine lv_iload_n hx hb dX7_requireObstacle_0 rfl (lv_at hl 1 rfl) ?_
  refine lv_if_lt (tgt := 15) hx hb dX7_requireObstacle_1 (by decide) (fun c1 => ?_) (fun c1 => ?_)
  · have d1 := Int32.not_le.mpr c1
    exact rx_thW (text := "no such obstacle") (rest := []) S hHs hlf hG hl.1 hxt hlk hxk_IOB hxi_IOB rfl (by decide) hx1_IOB at_IOB ot_IOB dX7_requireObstacle_15 dX7_requireObstacle_18 dX7_requireObstacle_19 dX7_requireObstacle_22 dX7_requireObstacle_25 ⟨by decide, Nat.le_of_ble_eq_true rfl, Nat.le_of_ble_eq_true rfl, Nat.le_of_ble_eq_true rfl⟩ ⟨Nat.le_of_ble_eq_true rfl, Nat.le_of_ble_eq_true rfl⟩ (fun t hext => ⟨by first | rfl | (simp only [koIx, kOr, ne_eq, not_true_eq_false, not_false_eq_true, and_true, true_and, and_false, false_and, or_true, true_or, or_false, false_or, and_self, or_self, decide_eq_true_eq, ↓reduceIte]; done) | (simp only [koIx, c1, d1, kOr, ne_eq, not_true_eq_false, not_false_eq_true, and_true, true_and, and_false, false_and, or_true, true_or, or_false, false_or, and_self, or_self, decide_eq_true_eq, ↓reduceIte]; done) | (simp [koIx, c1, d1, kOr]; done) | (simp only [koIx, c1, d1, kOr, ne_eq, not_true_eq_false, not_false_eq_true, and_true, true_and, and_false, false_and, or_true, true_or, or_false, false_or, and_self, or_self, decide_eq_true_eq, ↓reduceIte]), hext⟩)
  · have d1 := Int32.not_lt.mp c1
    refine lv_iload_n hx hb dX7_requireObstacle_4 rfl (lv_at hl 1 rfl) ?_
    refine lv_aload_n hx hb dX7_requireObstacle_5 rfl (lv_at hl 0 rfl) ?_
    refine rd_get (own := RX7) (x := .ref (A 1)) S hG.1 iX7 (rP_0 hR) 0 rfl (by decide) w0 rfl dX7_requireObstacle_6 ?_
    refine rd_getN (own := RX7) (x := .int (nI (g 1))) S hG.1 iX4 (rP_1 hR) 5 rfl (by decide) nest_66 rfl dX7_requireObstacle_9 ?_
    refine lv_icmp_lt (tgt := 26) hx hb dX7_requireObstacle_12 (by decide) (fun c2 => ?_) (fun c2 => ?_)
    · have d2 := Int32.not_le.mpr c2
      exact rx_vret S hr hlk dX7_requireObstacle_26 (by first | rfl | (simp only [koIx, kOr, ne_eq, not_true_eq_false, not_false_eq_true, and_true, true_and, and_false, false_and, or_true, true_or, or_false, false_or, and_self, or_self, decide_eq_true_eq, ↓reduceIte]; done) | (simp only [koIx, c1, d1, c2, d2, kOr, ne_eq, not_true_eq_false, not_false_eq_true, and_true, true_and, and_false, false_and, or_true, true_or, or_false, false_or, and_self, or_self, decide_eq_true_eq, ↓reduceIte]; done) | (simp [koIx, c1, d1, c2, d2, kOr]; done) | (simp only [koIx, c1, d1, c2, d2, kOr, ne_eq, not_true_eq_false, not_false_eq_true, and_true, true_and, and_false, false_and, or_true, true_or, or_false, false_or, and_self, or_self, decide_eq_true_eq, ↓reduceIte])) rfl
    · have d2 := Int32.not_lt.mp c2
      exact rx_thW (text := "no such obstacle") (rest := []) S hHs hlf hG hl.1 hxt hlk hxk_IOB hxi_IOB rfl (by decide) hx1_IOB at_IOB ot_IOB dX7_requireObstacle_15 dX7_requireObstacle_18 dX7_requireObstacle_19 dX7_requireObstacle_22 dX7_requireObstacle_25 ⟨by decide, Nat.le_of_ble_eq_true rfl, Nat.le_of_ble_eq_true rfl, Nat.le_of_ble_eq_true rfl⟩ ⟨Nat.le_of_ble_eq_true rfl, Nat.le_of_ble_eq_true rfl⟩ (fun t hext => ⟨by first | rfl | (simp only [koIx, kOr, ne_eq, not_true_eq_false, not_false_eq_true, and_true, true_and, and_false, false_and, or_true, true_or, or_false, false_or, and_self, or_self, decide_eq_true_eq, ↓reduceIte]; done) | (simp only [koIx, c1, d1, c2, d2, kOr, ne_eq, not_true_eq_false, not_false_eq_true, and_true, true_and, and_false, false_and, or_true, true_or, or_false, false_or, and_self, or_self, decide_eq_true_eq, ↓reduceIte]; done) | (simp [koIx, c1, d1, c2, d2, kOr]; done) | (simp only [koIx, c1, d1, c2, d2, kOr, ne_eq, not_true_eq_false, not_false_eq_true, and_true, true_and, and_false, false_and, or_true, true_or, or_false, false_or, and_self, or_self, decide_eq_true_eq, ↓reduceIte]), hext⟩)
theorem nmX7_requireProcedure : nmV yX7_requireProcedure RX7 1 := by decide +kernel
set_option maxHeartbeats 4000000 in
set_option maxRecDepth 100000 in
theorem c_X7_requireProcedure (l : Launch) (G : GT) (hlf : l.stackTraces = false) (A : Nat → Nat) (f : Nat → Nat → Int32) (g : Nat → Nat) (H : Heap) (hR : RP G A f g H) (i : Int32) : RxV l G H yX7_requireProcedure wsX7_requireProcedure { frames := 6, cells := 1, slots := 6, locals := 82 } [.ref (A 0), .int i] (koIx i (g 3)) (none) := by
  refine rx_of (cc := cX7_requireProcedure) (maxL := 2) (ret := none) (by decide) rfl (Nat.le_of_ble_eq_true rfl) ?_
  intro pZ eZ sZ mZ bZ meZ cZ ls S hr hlk hxt hl hHs hG
  have S : CallFix pZ mZ cZ cX7_requireProcedure 2 sZ _ wsX7_requireProcedure RX7 := S
  have hx := S.1
  have hb := S.2.1
  have hown := S.2.2.2.1
  have hts := S.2.2.2.2
  have hl : lv_has ls 2 [(0, .ref (A 0)), (1, .int i)] := hl
  have w0 := hts (.fieldLink RX7 26 "MinimaRoom" "procedures" "LMinimaRoom$Procedures;") (by decide +kernel)
  have iX7 : ∀ w ∈ u_ws RX7 TX7 8, w ∈ wsX7_requireProcedure := by decide +kernel
  have iX5 : ∀ w ∈ u_ws RX5 TX5 3, w ∈ wsX7_requireProcedure := by decide +kernel
  have hxk_IOB : Cond.classLink RX7 301 xIOB ∈ wsX7_requireProcedure := by decide +kernel
  have hxi_IOB : Cond.initialized xIOB ∈ wsX7_requireProcedure := by decide +kernel
  have hx1_IOB : ∀ w ∈ (vx_atS RX7 305 xIOB xUp).filter goodWord, w ∈ wsX7_requireProcedure := by decide +kernel
  have hgb := hR.1
  refine lv_iload_n hx hb dX7_requireProcedure_0 rfl (lv_at hl 1 rfl) ?_
  refine lv_if_lt (tgt := 15) hx hb dX7_requireProcedure_1 (by decide) (fun c1 => ?_) (fun c1 => ?_)
  · have d1 := Int32.not_le.mpr c1
    exact rx_thW (text := "no such procedure") (rest := []) S hHs hlf hG hl.1 hxt hlk hxk_IOB hxi_IOB rfl (by decide) hx1_IOB at_IOB ot_IOB dX7_requireProcedure_15 dX7_requireProcedure_18 dX7_requireProcedure_19 dX7_requireProcedure_22 dX7_requireProcedure_25 ⟨by decide, Nat.le_of_ble_eq_true rfl, Nat.le_of_ble_eq_true rfl, Nat.le_of_ble_eq_true rfl⟩ ⟨Nat.le_of_ble_eq_true rfl, Nat.le_of_ble_eq_true rfl⟩ (fun t hext => ⟨by first | rfl | (simp only [koIx, kOr, ne_eq, not_true_eq_false, not_false_eq_true, and_true, true_and, and_false, false_and, or_true, true_or, or_false, false_or, and_self, or_self, decide_eq_true_eq, ↓reduceIte]; done) | (simp only [koIx, c1, d1, kOr, ne_eq, not_true_eq_false, not_false_eq_true, and_true, true_and, and_false, false_and, or_true, true_or, or_false, false_or, and_self, or_self, decide_eq_true_eq, ↓reduceIte]; done) | (simp [koIx, c1, d1, kOr]; done) | (simp only [koIx, c1, d1, kOr, ne_eq, not_true_eq_false, not_false_eq_true, and_true, true_and, and_false, false_and, or_true, true_or, or_false, false_or, and_self, or_self, decide_eq_true_eq, ↓reduceIte]), hext⟩)
  · have d1 := Int32.not_lt.mp c1
    refine lv_iload_n hx hb dX7_requireProcedure_4 rfl (lv_at hl 1 rfl) ?_
    refine lv_aload_n hx hb dX7_requireProcedure_5 rfl (lv_at hl 0 rfl) ?_
    refine rd_get (own := RX7) (x := .ref (A 3)) S hG.1 iX7 (rP_0 hR) 2 rfl (by decide) w0 rfl dX7_requireProcedure_6 ?_
    refine rd_getN (own := RX7) (x := .int (nI (g 3))) S hG.1 iX5 (rP_3 hR) 2 rfl (by decide) nest_124 rfl dX7_requireProcedure_9 ?_
    refine lv_icmp_lt (tgt := 26) hx hb dX7_requireProcedure_12 (by decide) (fun c2 => ?_) (fun c2 => ?_)
    · have d2 := Int32.not_le.mpr c2
      exact rx_vret S hr hlk dX7_requireProcedure_26 (by first | rfl | (simp only [koIx, kOr, ne_eq, not_true_eq_false, not_false_eq_true, and_true, true_and, and_false, false_and, or_true, true_or, or_false, false_or, and_self, or_self, decide_eq_true_eq, ↓reduceIte]; done) | (simp only [koIx, c1, d1, c2, d2, kOr, ne_eq, not_true_eq_false, not_false_eq_true, and_true, true_and, and_false, false_and, or_true, true_or, or_false, false_or, and_self, or_self, decide_eq_true_eq, ↓reduceIte]; done) | (simp [koIx, c1, d1, c2, d2, kOr]; done) | (simp only [koIx, c1, d1, c2, d2, kOr, ne_eq, not_true_eq_false, not_false_eq_true, and_true, true_and, and_false, false_and, or_true, true_or, or_false, false_or, and_self, or_self, decide_eq_true_eq, ↓reduceIte])) rfl
    · have d2 := Int32.not_lt.mp c2
      exact rx_thW (text := "no such procedure") (rest := []) S hHs hlf hG hl.1 hxt hlk hxk_IOB hxi_IOB rfl (by decide) hx1_IOB at_IOB ot_IOB dX7_requireProcedure_15 dX7_requireProcedure_18 dX7_requireProcedure_19 dX7_requireProcedure_22 dX7_requireProcedure_25 ⟨by decide, Nat.le_of_ble_eq_true rfl, Nat.le_of_ble_eq_true rfl, Nat.le_of_ble_eq_true rfl⟩ ⟨Nat.le_of_ble_eq_true rfl, Nat.le_of_ble_eq_true rfl⟩ (fun t hext => ⟨by first | rfl | (simp only [koIx, kOr, ne_eq, not_true_eq_false, not_false_eq_true, and_true, true_and, and_false, false_and, or_true, true_or, or_false, false_or, and_self, or_self, decide_eq_true_eq, ↓reduceIte]; done) | (simp only [koIx, c1, d1, c2, d2, kOr, ne_eq, not_true_eq_false, not_false_eq_true, and_true, true_and, and_false, false_and, or_true, true_or, or_false, false_or, and_self, or_self, decide_eq_true_eq, ↓reduceIte]; done) | (simp [koIx, c1, d1, c2, d2, kOr]; done) | (simp only [koIx, c1, d1, c2, d2, kOr, ne_eq, not_true_eq_false, not_false_eq_true, and_true, true_and, and_false, false_and, or_true, true_or, or_false, false_or, and_self, or_self, decide_eq_true_eq, ↓reduceIte]), hext⟩)
theorem nmX7_requireNotice : nmV yX7_requireNotice RX7 1 := by decide +kernel
set_option maxHeartbeats 4000000 in
set_option maxRecDepth 100000 in
theorem c_X7_requireNotice (l : Launch) (G : GT) (hlf : l.stackTraces = false) (A : Nat → Nat) (f : Nat → Nat → Int32) (g : Nat → Nat) (H : Heap) (hR : RP G A f g H) (i : Int32) : RxV l G H yX7_requireNotice wsX7_requireNotice { frames := 6, cells := 1, slots := 6, locals := 82 } [.ref (A 0), .int i] (koIx i (g 5)) (none) := by
  refine rx_of (cc := cX7_requireNotice) (maxL := 2) (ret := none) (by decide) rfl (Nat.le_of_ble_eq_true rfl) ?_
  intro pZ eZ sZ mZ bZ meZ cZ ls S hr hlk hxt hl hHs hG
  have S : CallFix pZ mZ cZ cX7_requireNotice 2 sZ _ wsX7_requireNotice RX7 := S
  have hx := S.1
  have hb := S.2.1
  have hown := S.2.2.2.1
  have hts := S.2.2.2.2
  have hl : lv_has ls 2 [(0, .ref (A 0)), (1, .int i)] := hl
  have w0 := hts (.fieldLink RX7 40 "MinimaRoom" "notices" "LMinimaRoom$Notices;") (by decide +kernel)
  have iX7 : ∀ w ∈ u_ws RX7 TX7 8, w ∈ wsX7_requireNotice := by decide +kernel
  have iX3 : ∀ w ∈ u_ws RX3 TX3 7, w ∈ wsX7_requireNotice := by decide +kernel
  have hxk_IOB : Cond.classLink RX7 301 xIOB ∈ wsX7_requireNotice := by decide +kernel
  have hxi_IOB : Cond.initialized xIOB ∈ wsX7_requireNotice := by decide +kernel
  have hx1_IOB : ∀ w ∈ (vx_atS RX7 305 xIOB xUp).filter goodWord, w ∈ wsX7_requireNotice := by decide +kernel
  have hgb := hR.1
  refine lv_iload_n hx hb dX7_requireNotice_0 rfl (lv_at hl 1 rfl) ?_
  refine lv_if_lt (tgt := 15) hx hb dX7_requireNotice_1 (by decide) (fun c1 => ?_) (fun c1 => ?_)
  · have d1 := Int32.not_le.mpr c1
    exact rx_thW (text := "no such notice") (rest := []) S hHs hlf hG hl.1 hxt hlk hxk_IOB hxi_IOB rfl (by decide) hx1_IOB at_IOB ot_IOB dX7_requireNotice_15 dX7_requireNotice_18 dX7_requireNotice_19 dX7_requireNotice_22 dX7_requireNotice_25 ⟨by decide, Nat.le_of_ble_eq_true rfl, Nat.le_of_ble_eq_true rfl, Nat.le_of_ble_eq_true rfl⟩ ⟨Nat.le_of_ble_eq_true rfl, Nat.le_of_ble_eq_true rfl⟩ (fun t hext => ⟨by first | rfl | (simp only [koIx, kOr, ne_eq, not_true_eq_false, not_false_eq_true, and_true, true_and, and_false, false_and, or_true, true_or, or_false, false_or, and_self, or_self, decide_eq_true_eq, ↓reduceIte]; done) | (simp only [koIx, c1, d1, kOr, ne_eq, not_true_eq_false, not_false_eq_true, and_true, true_and, and_false, false_and, or_true, true_or, or_false, false_or, and_self, or_self, decide_eq_true_eq, ↓reduceIte]; done) | (simp [koIx, c1, d1, kOr]; done) | (simp only [koIx, c1, d1, kOr, ne_eq, not_true_eq_false, not_false_eq_true, and_true, true_and, and_false, false_and, or_true, true_or, or_false, false_or, and_self, or_self, decide_eq_true_eq, ↓reduceIte]), hext⟩)
  · have d1 := Int32.not_lt.mp c1
    refine lv_iload_n hx hb dX7_requireNotice_4 rfl (lv_at hl 1 rfl) ?_
    refine lv_aload_n hx hb dX7_requireNotice_5 rfl (lv_at hl 0 rfl) ?_
    refine rd_get (own := RX7) (x := .ref (A 5)) S hG.1 iX7 (rP_0 hR) 4 rfl (by decide) w0 rfl dX7_requireNotice_6 ?_
    refine rd_getN (own := RX7) (x := .int (nI (g 5))) S hG.1 iX3 (rP_5 hR) 6 rfl (by decide) nest_177 rfl dX7_requireNotice_9 ?_
    refine lv_icmp_lt (tgt := 26) hx hb dX7_requireNotice_12 (by decide) (fun c2 => ?_) (fun c2 => ?_)
    · have d2 := Int32.not_le.mpr c2
      exact rx_vret S hr hlk dX7_requireNotice_26 (by first | rfl | (simp only [koIx, kOr, ne_eq, not_true_eq_false, not_false_eq_true, and_true, true_and, and_false, false_and, or_true, true_or, or_false, false_or, and_self, or_self, decide_eq_true_eq, ↓reduceIte]; done) | (simp only [koIx, c1, d1, c2, d2, kOr, ne_eq, not_true_eq_false, not_false_eq_true, and_true, true_and, and_false, false_and, or_true, true_or, or_false, false_or, and_self, or_self, decide_eq_true_eq, ↓reduceIte]; done) | (simp [koIx, c1, d1, c2, d2, kOr]; done) | (simp only [koIx, c1, d1, c2, d2, kOr, ne_eq, not_true_eq_false, not_false_eq_true, and_true, true_and, and_false, false_and, or_true, true_or, or_false, false_or, and_self, or_self, decide_eq_true_eq, ↓reduceIte])) rfl
    · have d2 := Int32.not_lt.mp c2
      exact rx_thW (text := "no such notice") (rest := []) S hHs hlf hG hl.1 hxt hlk hxk_IOB hxi_IOB rfl (by decide) hx1_IOB at_IOB ot_IOB dX7_requireNotice_15 dX7_requireNotice_18 dX7_requireNotice_19 dX7_requireNotice_22 dX7_requireNotice_25 ⟨by decide, Nat.le_of_ble_eq_true rfl, Nat.le_of_ble_eq_true rfl, Nat.le_of_ble_eq_true rfl⟩ ⟨Nat.le_of_ble_eq_true rfl, Nat.le_of_ble_eq_true rfl⟩ (fun t hext => ⟨by first | rfl | (simp only [koIx, kOr, ne_eq, not_true_eq_false, not_false_eq_true, and_true, true_and, and_false, false_and, or_true, true_or, or_false, false_or, and_self, or_self, decide_eq_true_eq, ↓reduceIte]; done) | (simp only [koIx, c1, d1, c2, d2, kOr, ne_eq, not_true_eq_false, not_false_eq_true, and_true, true_and, and_false, false_and, or_true, true_or, or_false, false_or, and_self, or_self, decide_eq_true_eq, ↓reduceIte]; done) | (simp [koIx, c1, d1, c2, d2, kOr]; done) | (simp only [koIx, c1, d1, c2, d2, kOr, ne_eq, not_true_eq_false, not_false_eq_true, and_true, true_and, and_false, false_and, or_true, true_or, or_false, false_or, and_self, or_self, decide_eq_true_eq, ↓reduceIte]), hext⟩)
theorem nmX7_requireNoticeLeft : nmV yX7_requireNoticeLeft RX7 0 := by decide +kernel
set_option maxHeartbeats 4000000 in
set_option maxRecDepth 100000 in
theorem c_X7_requireNoticeLeft (l : Launch) (G : GT) (hlf : l.stackTraces = false) (A : Nat → Nat) (f : Nat → Nat → Int32) (g : Nat → Nat) (H : Heap) (hR : RP G A f g H) : RxV l G H yX7_requireNoticeLeft wsX7_requireNoticeLeft { frames := 6, cells := 1, slots := 6, locals := 82 } [.ref (A 0)] (koNL g) (none) := by
  refine rx_of (cc := cX7_requireNoticeLeft) (maxL := 1) (ret := none) (by decide) rfl (Nat.le_of_ble_eq_true rfl) ?_
  intro pZ eZ sZ mZ bZ meZ cZ ls S hr hlk hxt hl hHs hG
  have S : CallFix pZ mZ cZ cX7_requireNoticeLeft 1 sZ _ wsX7_requireNoticeLeft RX7 := S
  have hx := S.1
  have hb := S.2.1
  have hown := S.2.2.2.1
  have hts := S.2.2.2.2
  have hl : lv_has ls 1 [(0, .ref (A 0))] := hl
  have w0 := hts (.fieldLink RX7 40 "MinimaRoom" "notices" "LMinimaRoom$Notices;") (by decide +kernel)
  have iX7 : ∀ w ∈ u_ws RX7 TX7 8, w ∈ wsX7_requireNoticeLeft := by decide +kernel
  have iX3 : ∀ w ∈ u_ws RX3 TX3 7, w ∈ wsX7_requireNoticeLeft := by decide +kernel
  have hxk_ISE : Cond.classLink RX7 69 xISE ∈ wsX7_requireNoticeLeft := by decide +kernel
  have hxi_ISE : Cond.initialized xISE ∈ wsX7_requireNoticeLeft := by decide +kernel
  have hx1_ISE : ∀ w ∈ (vx_atS RX7 73 xISE xUp).filter goodWord, w ∈ wsX7_requireNoticeLeft := by decide +kernel
  have hgb := hR.1
  refine lv_aload_n hx hb dX7_requireNoticeLeft_0 rfl (lv_at hl 0 rfl) ?_
  refine rd_get (own := RX7) (x := .ref (A 5)) S hG.1 iX7 (rP_0 hR) 4 rfl (by decide) w0 rfl dX7_requireNoticeLeft_1 ?_
  refine rd_getN (own := RX7) (x := .int (nI (g 5))) S hG.1 iX3 (rP_5 hR) 6 rfl (by decide) nest_177 rfl dX7_requireNoticeLeft_4 ?_
  refine lv_bipush (v := 16) hx hb dX7_requireNoticeLeft_7 (by decide) ?_
  refine lv_icmp_lt (tgt := 23) hx hb dX7_requireNoticeLeft_9 (by decide) (fun c1 => ?_) (fun c1 => ?_)
  · have d1 := Int32.not_le.mpr c1
    exact rx_vret S hr hlk dX7_requireNoticeLeft_23 (by first | rfl | (simp only [koNL, kOr, ne_eq, not_true_eq_false, not_false_eq_true, and_true, true_and, and_false, false_and, or_true, true_or, or_false, false_or, and_self, or_self, decide_eq_true_eq, ↓reduceIte]; done) | (simp only [koNL, c1, d1, kOr, ne_eq, not_true_eq_false, not_false_eq_true, and_true, true_and, and_false, false_and, or_true, true_or, or_false, false_or, and_self, or_self, decide_eq_true_eq, ↓reduceIte]; done) | (simp [koNL, c1, d1, kOr]; done) | (simp only [koNL, c1, d1, kOr, ne_eq, not_true_eq_false, not_false_eq_true, and_true, true_and, and_false, false_and, or_true, true_or, or_false, false_or, and_self, or_self, decide_eq_true_eq, ↓reduceIte])) rfl
  · have d1 := Int32.not_lt.mp c1
    exact rx_thW (text := "there were 16 notices") (rest := []) S hHs hlf hG hl.1 hxt hlk hxk_ISE hxi_ISE rfl (by decide) hx1_ISE at_ISE ot_ISE dX7_requireNoticeLeft_12 dX7_requireNoticeLeft_15 dX7_requireNoticeLeft_16 dX7_requireNoticeLeft_19 dX7_requireNoticeLeft_22 ⟨by decide, Nat.le_of_ble_eq_true rfl, Nat.le_of_ble_eq_true rfl, Nat.le_of_ble_eq_true rfl⟩ ⟨Nat.le_of_ble_eq_true rfl, Nat.le_of_ble_eq_true rfl⟩ (fun t hext => ⟨by first | rfl | (simp only [koNL, kOr, ne_eq, not_true_eq_false, not_false_eq_true, and_true, true_and, and_false, false_and, or_true, true_or, or_false, false_or, and_self, or_self, decide_eq_true_eq, ↓reduceIte]; done) | (simp only [koNL, c1, d1, kOr, ne_eq, not_true_eq_false, not_false_eq_true, and_true, true_and, and_false, false_and, or_true, true_or, or_false, false_or, and_self, or_self, decide_eq_true_eq, ↓reduceIte]; done) | (simp [koNL, c1, d1, kOr]; done) | (simp only [koNL, c1, d1, kOr, ne_eq, not_true_eq_false, not_false_eq_true, and_true, true_and, and_false, false_and, or_true, true_or, or_false, false_or, and_self, or_self, decide_eq_true_eq, ↓reduceIte]), hext⟩)
theorem nmX7_requireDaysToCome : nmV yX7_requireDaysToCome RX7 2 := by decide +kernel
set_option maxHeartbeats 4000000 in
set_option maxRecDepth 100000 in
theorem c_X7_requireDaysToCome (l : Launch) (G : GT) (hlf : l.stackTraces = false) (A : Nat → Nat) (f : Nat → Nat → Int32) (g : Nat → Nat) (H : Heap) (hR : RP G A f g H) (a b : Int32) : RxV l G H yX7_requireDaysToCome wsX7_requireDaysToCome { frames := 7, cells := 1, slots := 6, locals := 104 } [.ref (A 0), .int a, .int b] (koTime g a b) (none) := by
  refine rx_of (cc := cX7_requireDaysToCome) (maxL := 3) (ret := none) (by decide) rfl (Nat.le_of_ble_eq_true rfl) ?_
  intro pZ eZ sZ mZ bZ meZ cZ ls S hr hlk hxt hl hHs hG
  have S : CallFix pZ mZ cZ cX7_requireDaysToCome 3 sZ _ wsX7_requireDaysToCome RX7 := S
  have hx := S.1
  have hb := S.2.1
  have hown := S.2.2.2.1
  have hts := S.2.2.2.2
  have hl : lv_has ls 3 [(0, .ref (A 0)), (1, .int a), (2, .int b)] := hl
  have w0 := hts (.fieldLink RX7 51 "MinimaRoom" "now" "I") (by decide +kernel)
  have iX7 : ∀ w ∈ u_ws RX7 TX7 8, w ∈ wsX7_requireDaysToCome := by decide +kernel
  have hgb := hR.1
  refine lv_iload_n hx hb dX7_requireDaysToCome_0 rfl (lv_at hl 1 rfl) ?_
  refine lv_aload_n hx hb dX7_requireDaysToCome_1 rfl (lv_at hl 0 rfl) ?_
  refine rd_get (own := RX7) (x := .int (nI (g 0))) S hG.1 iX7 (rP_0 hR) 6 rfl (by decide) w0 rfl dX7_requireDaysToCome_2 ?_
  refine lv_sipush (v := 399) hx hb dX7_requireDaysToCome_5 (by decide) ?_
  refine rx_S (As := [.int a, .int (nI (g 0)), .int 399]) (rest := []) (v := none) S hG (c_X7_requireArgument l G hlf H a (nI (g 0)) 399) gX7_requireDaysToCome_X7_requireArgument rfl ⟨rfl, rfl⟩ nmX7_requireArgument ⟨Nat.le_of_ble_eq_true rfl, Nat.le_of_ble_eq_true rfl⟩ rfl hl.1 rfl (Nat.le_of_ble_eq_true rfl) ⟨Nat.le_of_ble_eq_true rfl, Nat.le_of_ble_eq_true rfl⟩ dX7_requireDaysToCome_8 hxt hlk ⟨Nat.le_of_ble_eq_true rfl, Nat.le_of_ble_eq_true rfl⟩ (fun E t hE hext => ⟨by first | rfl | (simp only [koTime, hE, kOr, ne_eq, not_true_eq_false, not_false_eq_true, and_true, true_and, and_false, false_and, or_true, true_or, or_false, false_or, and_self, or_self, decide_eq_true_eq, ↓reduceIte]; done) | (simp only [koTime, hE, kOr, ne_eq, not_true_eq_false, not_false_eq_true, and_true, true_and, and_false, false_and, or_true, true_or, or_false, false_or, and_self, or_self, decide_eq_true_eq, ↓reduceIte]; done) | (simp [koTime, hE, kOr]; done) | (simp only [koTime, hE, kOr, ne_eq, not_true_eq_false, not_false_eq_true, and_true, true_and, and_false, false_and, or_true, true_or, or_false, false_or, and_self, or_self, decide_eq_true_eq, ↓reduceIte]), hext⟩) (fun k1 => ?_)
  refine W.eq (g2 := F0 mZ 11 ls []) rfl ?_
  refine lv_iload_n hx hb dX7_requireDaysToCome_11 rfl (lv_at hl 2 rfl) ?_
  refine lv_iload_n hx hb dX7_requireDaysToCome_12 rfl (lv_at hl 1 rfl) ?_
  refine lv_sipush (v := 399) hx hb dX7_requireDaysToCome_13 (by decide) ?_
  refine rx_S (As := [.int b, .int a, .int 399]) (rest := []) (v := none) S hG (c_X7_requireArgument l G hlf H b a 399) gX7_requireDaysToCome_X7_requireArgument rfl ⟨rfl, rfl⟩ nmX7_requireArgument ⟨Nat.le_of_ble_eq_true rfl, Nat.le_of_ble_eq_true rfl⟩ rfl hl.1 rfl (Nat.le_of_ble_eq_true rfl) ⟨Nat.le_of_ble_eq_true rfl, Nat.le_of_ble_eq_true rfl⟩ dX7_requireDaysToCome_16 hxt hlk ⟨Nat.le_of_ble_eq_true rfl, Nat.le_of_ble_eq_true rfl⟩ (fun E t hE hext => ⟨by first | rfl | (simp only [koTime, k1, hE, kOr, ne_eq, not_true_eq_false, not_false_eq_true, and_true, true_and, and_false, false_and, or_true, true_or, or_false, false_or, and_self, or_self, decide_eq_true_eq, ↓reduceIte]; done) | (simp only [koTime, k1, hE, kOr, ne_eq, not_true_eq_false, not_false_eq_true, and_true, true_and, and_false, false_and, or_true, true_or, or_false, false_or, and_self, or_self, decide_eq_true_eq, ↓reduceIte]; done) | (simp [koTime, k1, hE, kOr]; done) | (simp only [koTime, k1, hE, kOr, ne_eq, not_true_eq_false, not_false_eq_true, and_true, true_and, and_false, false_and, or_true, true_or, or_false, false_or, and_self, or_self, decide_eq_true_eq, ↓reduceIte]), hext⟩) (fun k2 => ?_)
  refine W.eq (g2 := F0 mZ 19 ls []) rfl ?_
  exact rx_vret S hr hlk dX7_requireDaysToCome_19 (by first | rfl | (simp only [koTime, k1, k2, kOr, ne_eq, not_true_eq_false, not_false_eq_true, and_true, true_and, and_false, false_and, or_true, true_or, or_false, false_or, and_self, or_self, decide_eq_true_eq, ↓reduceIte]; done) | (simp only [koTime, k1, k2, kOr, ne_eq, not_true_eq_false, not_false_eq_true, and_true, true_and, and_false, false_and, or_true, true_or, or_false, false_or, and_self, or_self, decide_eq_true_eq, ↓reduceIte]; done) | (simp [koTime, k1, k2, kOr]; done) | (simp only [koTime, k1, k2, kOr, ne_eq, not_true_eq_false, not_false_eq_true, and_true, true_and, and_false, false_and, or_true, true_or, or_false, false_or, and_self, or_self, decide_eq_true_eq, ↓reduceIte])) rfl
theorem nmX7_ofObstacle : nmV yX7_ofObstacle RX7 2 := by decide +kernel
set_option maxHeartbeats 4000000 in
set_option maxRecDepth 100000 in
theorem c_X7_ofObstacle (l : Launch) (G : GT) (hlf : l.stackTraces = false) (A : Nat → Nat) (f : Nat → Nat → Int32) (g : Nat → Nat) (H : Heap) (hR : RP G A f g H) (i w : Int32) : RxV l G H yX7_ofObstacle wsX7_ofObstacle { frames := 7, cells := 1, slots := 6, locals := 104 } [.ref (A 0), .int i, .int w] (kOr (koIx i (g 1)) (koArg w 0 4)) (some (.int (ofOb f i w))) := by
  refine rx_of (cc := cX7_ofObstacle) (maxL := 3) (ret := (some .int)) (by decide) rfl (Nat.le_of_ble_eq_true rfl) ?_
  intro pZ eZ sZ mZ bZ meZ cZ ls S hr hlk hxt hl hHs hG
  have S : CallFix pZ mZ cZ cX7_ofObstacle 3 sZ _ wsX7_ofObstacle RX7 := S
  have hx := S.1
  have hb := S.2.1
  have hown := S.2.2.2.1
  have hts := S.2.2.2.2
  have hl : lv_has ls 3 [(0, .ref (A 0)), (1, .int i), (2, .int w)] := hl
  have w0 := hts (.fieldLink RX7 10 "MinimaRoom" "obstacles" "LMinimaRoom$Obstacles;") (by decide +kernel)
  have iX7 : ∀ w ∈ u_ws RX7 TX7 8, w ∈ wsX7_ofObstacle := by decide +kernel
  have iX4 : ∀ w ∈ u_ws RX4 TX4 6, w ∈ wsX7_ofObstacle := by decide +kernel
  have hgb := hR.1
  refine lv_aload_n hx hb dX7_ofObstacle_0 rfl (lv_at hl 0 rfl) ?_
  refine lv_iload_n hx hb dX7_ofObstacle_1 rfl (lv_at hl 1 rfl) ?_
  refine rx_V (As := [.int i]) (rest := []) (v := none) S hG (c_X7_requireObstacle l G hlf A f g H hR i) gX7_ofObstacle_X7_requireObstacle rfl ⟨rfl, rfl⟩ nmX7_requireObstacle ⟨Nat.le_of_ble_eq_true rfl, Nat.le_of_ble_eq_true rfl⟩ (rd_rcv hG.1 (rP_0 hR) rfl) rfl hl.1 rfl (Nat.le_of_ble_eq_true rfl) ⟨Nat.le_of_ble_eq_true rfl, Nat.le_of_ble_eq_true rfl⟩ dX7_ofObstacle_2 hxt hlk ⟨Nat.le_of_ble_eq_true rfl, Nat.le_of_ble_eq_true rfl⟩ (fun E t hE hext => ⟨by first | rfl | (simp only [ofOb, hE, kOr, ne_eq, not_true_eq_false, not_false_eq_true, and_true, true_and, and_false, false_and, or_true, true_or, or_false, false_or, and_self, or_self, decide_eq_true_eq, ↓reduceIte]; done) | (simp only [ofOb, hE, kOr, ne_eq, not_true_eq_false, not_false_eq_true, and_true, true_and, and_false, false_and, or_true, true_or, or_false, false_or, and_self, or_self, decide_eq_true_eq, ↓reduceIte]; done) | (simp [ofOb, hE, kOr]; done) | (simp only [ofOb, hE, kOr, ne_eq, not_true_eq_false, not_false_eq_true, and_true, true_and, and_false, false_and, or_true, true_or, or_false, false_or, and_self, or_self, decide_eq_true_eq, ↓reduceIte]), hext⟩) (fun k1 => ?_)
  refine W.eq (g2 := F0 mZ 5 ls []) rfl ?_
  refine lv_iload_n hx hb dX7_ofObstacle_5 rfl (lv_at hl 2 rfl) ?_
  refine lv_iconst (v := 0) hx hb dX7_ofObstacle_6 (by decide) ?_
  refine lv_iconst (v := 4) hx hb dX7_ofObstacle_7 (by decide) ?_
  refine rx_S (As := [.int w, .int 0, .int 4]) (rest := []) (v := none) S hG (c_X7_requireArgument l G hlf H w 0 4) gX7_ofObstacle_X7_requireArgument rfl ⟨rfl, rfl⟩ nmX7_requireArgument ⟨Nat.le_of_ble_eq_true rfl, Nat.le_of_ble_eq_true rfl⟩ rfl hl.1 rfl (Nat.le_of_ble_eq_true rfl) ⟨Nat.le_of_ble_eq_true rfl, Nat.le_of_ble_eq_true rfl⟩ dX7_ofObstacle_8 hxt hlk ⟨Nat.le_of_ble_eq_true rfl, Nat.le_of_ble_eq_true rfl⟩ (fun E t hE hext => ⟨by first | rfl | (simp only [ofOb, k1, hE, kOr, ne_eq, not_true_eq_false, not_false_eq_true, and_true, true_and, and_false, false_and, or_true, true_or, or_false, false_or, and_self, or_self, decide_eq_true_eq, ↓reduceIte]; done) | (simp only [ofOb, k1, hE, kOr, ne_eq, not_true_eq_false, not_false_eq_true, and_true, true_and, and_false, false_and, or_true, true_or, or_false, false_or, and_self, or_self, decide_eq_true_eq, ↓reduceIte]; done) | (simp [ofOb, k1, hE, kOr]; done) | (simp only [ofOb, k1, hE, kOr, ne_eq, not_true_eq_false, not_false_eq_true, and_true, true_and, and_false, false_and, or_true, true_or, or_false, false_or, and_self, or_self, decide_eq_true_eq, ↓reduceIte]), hext⟩) (fun k2 => ?_)
  refine W.eq (g2 := F0 mZ 11 ls []) rfl ?_
  refine lv_iload_n hx hb dX7_ofObstacle_11 rfl (lv_at hl 2 rfl) ?_
  by_cases c3 : w = 0
  · refine lv_tableIn (off := 32) (tgt := 44) hx hb dX7_ofObstacle_12 (by rw [c3]; decide) (by rw [c3]; decide) (by rw [c3]; rfl) (by decide) ?_
    refine lv_aload_n hx hb dX7_ofObstacle_44 rfl (lv_at hl 0 rfl) ?_
    refine rd_get (own := RX7) (x := .ref (A 1)) S hG.1 iX7 (rP_0 hR) 0 rfl (by decide) w0 rfl dX7_ofObstacle_45 ?_
    refine rd_getN (own := RX7) (x := .ref (A 10)) S hG.1 iX4 (rP_1 hR) 0 rfl (by decide) nest_178 rfl dX7_ofObstacle_48 ?_
    refine lv_iload_n hx hb dX7_ofObstacle_51 rfl (lv_at hl 1 rfl) ?_
    refine rd_V (As := [.int i]) (rest := []) (v := some (.int (rowAt 12 (f 10) i))) S hG (c_X6_at l G H (A 10) (A 30) 12 (f 10) (by decide) (rP_10 hR) (rP_30 hR) i) gX7_ofObstacle_X6_at rfl ⟨rfl, rfl⟩ nmX6_at ⟨Nat.le_of_ble_eq_true rfl, Nat.le_of_ble_eq_true rfl⟩ (rd_rcv hG.1 (rP_10 hR) rfl) rfl hl.1 rfl (Nat.le_of_ble_eq_true rfl) ⟨Nat.zero_le _, Nat.zero_le _⟩ dX7_ofObstacle_52 ?_
    refine W.eq (g2 := F0 mZ 55 ls [.int (rowAt 12 (f 10) i)]) rfl ?_
    exact rx_iret S hr hlk dX7_ofObstacle_55 (by first | rfl | (simp only [ofOb, k1, k2, kOr, ne_eq, not_true_eq_false, not_false_eq_true, and_true, true_and, and_false, false_and, or_true, true_or, or_false, false_or, and_self, or_self, decide_eq_true_eq, ↓reduceIte]; done) | (simp only [ofOb, k1, k2, c3, kOr, ne_eq, not_true_eq_false, not_false_eq_true, and_true, true_and, and_false, false_and, or_true, true_or, or_false, false_or, and_self, or_self, decide_eq_true_eq, ↓reduceIte]; done) | (simp [ofOb, k1, k2, c3, kOr]; done) | (simp only [ofOb, k1, k2, c3, kOr, ne_eq, not_true_eq_false, not_false_eq_true, and_true, true_and, and_false, false_and, or_true, true_or, or_false, false_or, and_self, or_self, decide_eq_true_eq, ↓reduceIte])) (congrArg (fun z => some (Value.int z)) (by first | rfl | (simp only [ofOb, k1, k2, c3, ne_eq, not_true_eq_false, not_false_eq_true, and_true, true_and, and_false, false_and, or_true, true_or, or_false, false_or, and_self, or_self, decide_eq_true_eq, ↓reduceIte]; done) | (simp [ofOb, k1, k2, c3]; done) | (simp only [ofOb, k1, k2, c3, ne_eq, not_true_eq_false, not_false_eq_true, and_true, true_and, and_false, false_and, or_true, true_or, or_false, false_or, and_self, or_self, decide_eq_true_eq, ↓reduceIte])))
  by_cases c4 : w = 1
  · refine lv_tableIn (off := 44) (tgt := 56) hx hb dX7_ofObstacle_12 (by rw [c4]; decide) (by rw [c4]; decide) (by rw [c4]; rfl) (by decide) ?_
    refine lv_aload_n hx hb dX7_ofObstacle_56 rfl (lv_at hl 0 rfl) ?_
    refine rd_get (own := RX7) (x := .ref (A 1)) S hG.1 iX7 (rP_0 hR) 0 rfl (by decide) w0 rfl dX7_ofObstacle_57 ?_
    refine rd_getN (own := RX7) (x := .ref (A 11)) S hG.1 iX4 (rP_1 hR) 1 rfl (by decide) nest_181 rfl dX7_ofObstacle_60 ?_
    refine lv_iload_n hx hb dX7_ofObstacle_63 rfl (lv_at hl 1 rfl) ?_
    refine rd_V (As := [.int i]) (rest := []) (v := some (.int (rowAt 12 (f 11) i))) S hG (c_X6_at l G H (A 11) (A 31) 12 (f 11) (by decide) (rP_11 hR) (rP_31 hR) i) gX7_ofObstacle_X6_at rfl ⟨rfl, rfl⟩ nmX6_at ⟨Nat.le_of_ble_eq_true rfl, Nat.le_of_ble_eq_true rfl⟩ (rd_rcv hG.1 (rP_11 hR) rfl) rfl hl.1 rfl (Nat.le_of_ble_eq_true rfl) ⟨Nat.zero_le _, Nat.zero_le _⟩ dX7_ofObstacle_64 ?_
    refine W.eq (g2 := F0 mZ 67 ls [.int (rowAt 12 (f 11) i)]) rfl ?_
    exact rx_iret S hr hlk dX7_ofObstacle_67 (by first | rfl | (simp only [ofOb, k1, k2, kOr, ne_eq, not_true_eq_false, not_false_eq_true, and_true, true_and, and_false, false_and, or_true, true_or, or_false, false_or, and_self, or_self, decide_eq_true_eq, ↓reduceIte]; done) | (simp only [ofOb, k1, k2, c3, c4, kOr, ne_eq, not_true_eq_false, not_false_eq_true, and_true, true_and, and_false, false_and, or_true, true_or, or_false, false_or, and_self, or_self, decide_eq_true_eq, ↓reduceIte]; done) | (simp [ofOb, k1, k2, c3, c4, kOr]; done) | (simp only [ofOb, k1, k2, c3, c4, kOr, ne_eq, not_true_eq_false, not_false_eq_true, and_true, true_and, and_false, false_and, or_true, true_or, or_false, false_or, and_self, or_self, decide_eq_true_eq, ↓reduceIte])) (congrArg (fun z => some (Value.int z)) (by first | rfl | (simp only [ofOb, k1, k2, c3, c4, ne_eq, not_true_eq_false, not_false_eq_true, and_true, true_and, and_false, false_and, or_true, true_or, or_false, false_or, and_self, or_self, decide_eq_true_eq, ↓reduceIte]; done) | (simp [ofOb, k1, k2, c3, c4]; done) | (simp only [ofOb, k1, k2, c3, c4, ne_eq, not_true_eq_false, not_false_eq_true, and_true, true_and, and_false, false_and, or_true, true_or, or_false, false_or, and_self, or_self, decide_eq_true_eq, ↓reduceIte])))
  by_cases c5 : w = 2
  · refine lv_tableIn (off := 56) (tgt := 68) hx hb dX7_ofObstacle_12 (by rw [c5]; decide) (by rw [c5]; decide) (by rw [c5]; rfl) (by decide) ?_
    refine lv_aload_n hx hb dX7_ofObstacle_68 rfl (lv_at hl 0 rfl) ?_
    refine rd_get (own := RX7) (x := .ref (A 1)) S hG.1 iX7 (rP_0 hR) 0 rfl (by decide) w0 rfl dX7_ofObstacle_69 ?_
    refine rd_getN (own := RX7) (x := .ref (A 12)) S hG.1 iX4 (rP_1 hR) 2 rfl (by decide) nest_184 rfl dX7_ofObstacle_72 ?_
    refine lv_iload_n hx hb dX7_ofObstacle_75 rfl (lv_at hl 1 rfl) ?_
    refine rd_V (As := [.int i]) (rest := []) (v := some (.int (rowAt 12 (f 12) i))) S hG (c_X6_at l G H (A 12) (A 32) 12 (f 12) (by decide) (rP_12 hR) (rP_32 hR) i) gX7_ofObstacle_X6_at rfl ⟨rfl, rfl⟩ nmX6_at ⟨Nat.le_of_ble_eq_true rfl, Nat.le_of_ble_eq_true rfl⟩ (rd_rcv hG.1 (rP_12 hR) rfl) rfl hl.1 rfl (Nat.le_of_ble_eq_true rfl) ⟨Nat.zero_le _, Nat.zero_le _⟩ dX7_ofObstacle_76 ?_
    refine W.eq (g2 := F0 mZ 79 ls [.int (rowAt 12 (f 12) i)]) rfl ?_
    exact rx_iret S hr hlk dX7_ofObstacle_79 (by first | rfl | (simp only [ofOb, k1, k2, kOr, ne_eq, not_true_eq_false, not_false_eq_true, and_true, true_and, and_false, false_and, or_true, true_or, or_false, false_or, and_self, or_self, decide_eq_true_eq, ↓reduceIte]; done) | (simp only [ofOb, k1, k2, c3, c4, c5, kOr, ne_eq, not_true_eq_false, not_false_eq_true, and_true, true_and, and_false, false_and, or_true, true_or, or_false, false_or, and_self, or_self, decide_eq_true_eq, ↓reduceIte]; done) | (simp [ofOb, k1, k2, c3, c4, c5, kOr]; done) | (simp only [ofOb, k1, k2, c3, c4, c5, kOr, ne_eq, not_true_eq_false, not_false_eq_true, and_true, true_and, and_false, false_and, or_true, true_or, or_false, false_or, and_self, or_self, decide_eq_true_eq, ↓reduceIte])) (congrArg (fun z => some (Value.int z)) (by first | rfl | (simp only [ofOb, k1, k2, c3, c4, c5, ne_eq, not_true_eq_false, not_false_eq_true, and_true, true_and, and_false, false_and, or_true, true_or, or_false, false_or, and_self, or_self, decide_eq_true_eq, ↓reduceIte]; done) | (simp [ofOb, k1, k2, c3, c4, c5]; done) | (simp only [ofOb, k1, k2, c3, c4, c5, ne_eq, not_true_eq_false, not_false_eq_true, and_true, true_and, and_false, false_and, or_true, true_or, or_false, false_or, and_self, or_self, decide_eq_true_eq, ↓reduceIte])))
  by_cases c6 : w = 3
  · refine lv_tableIn (off := 68) (tgt := 80) hx hb dX7_ofObstacle_12 (by rw [c6]; decide) (by rw [c6]; decide) (by rw [c6]; rfl) (by decide) ?_
    refine lv_aload_n hx hb dX7_ofObstacle_80 rfl (lv_at hl 0 rfl) ?_
    refine rd_get (own := RX7) (x := .ref (A 1)) S hG.1 iX7 (rP_0 hR) 0 rfl (by decide) w0 rfl dX7_ofObstacle_81 ?_
    refine rd_getN (own := RX7) (x := .ref (A 13)) S hG.1 iX4 (rP_1 hR) 3 rfl (by decide) nest_95 rfl dX7_ofObstacle_84 ?_
    refine lv_iload_n hx hb dX7_ofObstacle_87 rfl (lv_at hl 1 rfl) ?_
    refine rd_V (As := [.int i]) (rest := []) (v := some (.int (rowAt 12 (f 13) i))) S hG (c_X6_at l G H (A 13) (A 33) 12 (f 13) (by decide) (rP_13 hR) (rP_33 hR) i) gX7_ofObstacle_X6_at rfl ⟨rfl, rfl⟩ nmX6_at ⟨Nat.le_of_ble_eq_true rfl, Nat.le_of_ble_eq_true rfl⟩ (rd_rcv hG.1 (rP_13 hR) rfl) rfl hl.1 rfl (Nat.le_of_ble_eq_true rfl) ⟨Nat.zero_le _, Nat.zero_le _⟩ dX7_ofObstacle_88 ?_
    refine W.eq (g2 := F0 mZ 91 ls [.int (rowAt 12 (f 13) i)]) rfl ?_
    exact rx_iret S hr hlk dX7_ofObstacle_91 (by first | rfl | (simp only [ofOb, k1, k2, kOr, ne_eq, not_true_eq_false, not_false_eq_true, and_true, true_and, and_false, false_and, or_true, true_or, or_false, false_or, and_self, or_self, decide_eq_true_eq, ↓reduceIte]; done) | (simp only [ofOb, k1, k2, c3, c4, c5, c6, kOr, ne_eq, not_true_eq_false, not_false_eq_true, and_true, true_and, and_false, false_and, or_true, true_or, or_false, false_or, and_self, or_self, decide_eq_true_eq, ↓reduceIte]; done) | (simp [ofOb, k1, k2, c3, c4, c5, c6, kOr]; done) | (simp only [ofOb, k1, k2, c3, c4, c5, c6, kOr, ne_eq, not_true_eq_false, not_false_eq_true, and_true, true_and, and_false, false_and, or_true, true_or, or_false, false_or, and_self, or_self, decide_eq_true_eq, ↓reduceIte])) (congrArg (fun z => some (Value.int z)) (by first | rfl | (simp only [ofOb, k1, k2, c3, c4, c5, c6, ne_eq, not_true_eq_false, not_false_eq_true, and_true, true_and, and_false, false_and, or_true, true_or, or_false, false_or, and_self, or_self, decide_eq_true_eq, ↓reduceIte]; done) | (simp [ofOb, k1, k2, c3, c4, c5, c6]; done) | (simp only [ofOb, k1, k2, c3, c4, c5, c6, ne_eq, not_true_eq_false, not_false_eq_true, and_true, true_and, and_false, false_and, or_true, true_or, or_false, false_or, and_self, or_self, decide_eq_true_eq, ↓reduceIte])))
  refine lv_tableOut (tgt := 92) hx hb dX7_ofObstacle_12 (by have a0 := lv_neT c3 (a := 0) (by decide); have a1 := lv_neT c4 (a := 1) (by decide); have a2 := lv_neT c5 (a := 2) (by decide); have a3 := lv_neT c6 (a := 3) (by decide); omega) (by decide) ?_
  refine lv_aload_n hx hb dX7_ofObstacle_92 rfl (lv_at hl 0 rfl) ?_
  refine rd_get (own := RX7) (x := .ref (A 1)) S hG.1 iX7 (rP_0 hR) 0 rfl (by decide) w0 rfl dX7_ofObstacle_93 ?_
  refine rd_getN (own := RX7) (x := .ref (A 14)) S hG.1 iX4 (rP_1 hR) 4 rfl (by decide) nest_83 rfl dX7_ofObstacle_96 ?_
  refine lv_iload_n hx hb dX7_ofObstacle_99 rfl (lv_at hl 1 rfl) ?_
  refine rd_V (As := [.int i]) (rest := []) (v := some (.int (rowAt 12 (f 14) i))) S hG (c_X6_at l G H (A 14) (A 34) 12 (f 14) (by decide) (rP_14 hR) (rP_34 hR) i) gX7_ofObstacle_X6_at rfl ⟨rfl, rfl⟩ nmX6_at ⟨Nat.le_of_ble_eq_true rfl, Nat.le_of_ble_eq_true rfl⟩ (rd_rcv hG.1 (rP_14 hR) rfl) rfl hl.1 rfl (Nat.le_of_ble_eq_true rfl) ⟨Nat.zero_le _, Nat.zero_le _⟩ dX7_ofObstacle_100 ?_
  refine W.eq (g2 := F0 mZ 103 ls [.int (rowAt 12 (f 14) i)]) rfl ?_
  exact rx_iret S hr hlk dX7_ofObstacle_103 (by first | rfl | (simp only [ofOb, k1, k2, kOr, ne_eq, not_true_eq_false, not_false_eq_true, and_true, true_and, and_false, false_and, or_true, true_or, or_false, false_or, and_self, or_self, decide_eq_true_eq, ↓reduceIte]; done) | (simp only [ofOb, k1, k2, c3, c4, c5, c6, kOr, ne_eq, not_true_eq_false, not_false_eq_true, and_true, true_and, and_false, false_and, or_true, true_or, or_false, false_or, and_self, or_self, decide_eq_true_eq, ↓reduceIte]; done) | (simp [ofOb, k1, k2, c3, c4, c5, c6, kOr]; done) | (simp only [ofOb, k1, k2, c3, c4, c5, c6, kOr, ne_eq, not_true_eq_false, not_false_eq_true, and_true, true_and, and_false, false_and, or_true, true_or, or_false, false_or, and_self, or_self, decide_eq_true_eq, ↓reduceIte])) (congrArg (fun z => some (Value.int z)) (by first | rfl | (simp only [ofOb, k1, k2, c3, c4, c5, c6, ne_eq, not_true_eq_false, not_false_eq_true, and_true, true_and, and_false, false_and, or_true, true_or, or_false, false_or, and_self, or_self, decide_eq_true_eq, ↓reduceIte]; done) | (simp [ofOb, k1, k2, c3, c4, c5, c6]; done) | (simp only [ofOb, k1, k2, c3, c4, c5, c6, ne_eq, not_true_eq_false, not_false_eq_true, and_true, true_and, and_false, false_and, or_true, true_or, or_false, false_or, and_self, or_self, decide_eq_true_eq, ↓reduceIte])))
theorem nmX7_demanded : nmV yX7_demanded RX7 3 := by decide +kernel
set_option maxHeartbeats 4000000 in
set_option maxRecDepth 100000 in
theorem c_X7_demanded (l : Launch) (G : GT) (hlf : l.stackTraces = false) (A : Nat → Nat) (f : Nat → Nat → Int32) (g : Nat → Nat) (H : Heap) (hR : RP G A f g H) (i d ca : Int32) : RxV l G H yX7_demanded wsX7_demanded { frames := 8, cells := 1, slots := 6, locals := 124 } [.ref (A 0), .int i, .int d, .int ca] (kOr (koIx i (g 3)) (kOr (koArg d 0 399) (koArg ca 0 3))) (some (.int (lH f g i d (-1) + 10 * ca))) := by
  refine rx_of (cc := cX7_demanded) (maxL := 4) (ret := (some .int)) (by decide) rfl (Nat.le_of_ble_eq_true rfl) ?_
  intro pZ eZ sZ mZ bZ meZ cZ ls S hr hlk hxt hl hHs hG
  have S : CallFix pZ mZ cZ cX7_demanded 4 sZ _ wsX7_demanded RX7 := S
  have hx := S.1
  have hb := S.2.1
  have hown := S.2.2.2.1
  have hts := S.2.2.2.2
  have hl : lv_has ls 4 [(0, .ref (A 0)), (1, .int i), (2, .int d), (3, .int ca)] := hl
  have hgb := hR.1
  refine lv_aload_n hx hb dX7_demanded_0 rfl (lv_at hl 0 rfl) ?_
  refine lv_iload_n hx hb dX7_demanded_1 rfl (lv_at hl 1 rfl) ?_
  refine rx_V (As := [.int i]) (rest := []) (v := none) S hG (c_X7_requireProcedure l G hlf A f g H hR i) gX7_demanded_X7_requireProcedure rfl ⟨rfl, rfl⟩ nmX7_requireProcedure ⟨Nat.le_of_ble_eq_true rfl, Nat.le_of_ble_eq_true rfl⟩ (rd_rcv hG.1 (rP_0 hR) rfl) rfl hl.1 rfl (Nat.le_of_ble_eq_true rfl) ⟨Nat.le_of_ble_eq_true rfl, Nat.le_of_ble_eq_true rfl⟩ dX7_demanded_2 hxt hlk ⟨Nat.le_of_ble_eq_true rfl, Nat.le_of_ble_eq_true rfl⟩ (fun E t hE hext => ⟨by first | rfl | (simp only [hE, kOr, ne_eq, not_true_eq_false, not_false_eq_true, and_true, true_and, and_false, false_and, or_true, true_or, or_false, false_or, and_self, or_self, decide_eq_true_eq, ↓reduceIte]; done) | (simp only [hE, kOr, ne_eq, not_true_eq_false, not_false_eq_true, and_true, true_and, and_false, false_and, or_true, true_or, or_false, false_or, and_self, or_self, decide_eq_true_eq, ↓reduceIte]; done) | (simp [hE, kOr]; done) | (simp only [hE, kOr, ne_eq, not_true_eq_false, not_false_eq_true, and_true, true_and, and_false, false_and, or_true, true_or, or_false, false_or, and_self, or_self, decide_eq_true_eq, ↓reduceIte]), hext⟩) (fun k1 => ?_)
  refine W.eq (g2 := F0 mZ 5 ls []) rfl ?_
  refine lv_iload_n hx hb dX7_demanded_5 rfl (lv_at hl 2 rfl) ?_
  refine rx_S (As := [.int d]) (rest := []) (v := none) S hG (c_X7_requireDay l G hlf H d) gX7_demanded_X7_requireDay rfl ⟨rfl, rfl⟩ nmX7_requireDay ⟨Nat.le_of_ble_eq_true rfl, Nat.le_of_ble_eq_true rfl⟩ rfl hl.1 rfl (Nat.le_of_ble_eq_true rfl) ⟨Nat.le_of_ble_eq_true rfl, Nat.le_of_ble_eq_true rfl⟩ dX7_demanded_6 hxt hlk ⟨Nat.le_of_ble_eq_true rfl, Nat.le_of_ble_eq_true rfl⟩ (fun E t hE hext => ⟨by first | rfl | (simp only [k1, hE, kOr, ne_eq, not_true_eq_false, not_false_eq_true, and_true, true_and, and_false, false_and, or_true, true_or, or_false, false_or, and_self, or_self, decide_eq_true_eq, ↓reduceIte]; done) | (simp only [k1, hE, kOr, ne_eq, not_true_eq_false, not_false_eq_true, and_true, true_and, and_false, false_and, or_true, true_or, or_false, false_or, and_self, or_self, decide_eq_true_eq, ↓reduceIte]; done) | (simp [k1, hE, kOr]; done) | (simp only [k1, hE, kOr, ne_eq, not_true_eq_false, not_false_eq_true, and_true, true_and, and_false, false_and, or_true, true_or, or_false, false_or, and_self, or_self, decide_eq_true_eq, ↓reduceIte]), hext⟩) (fun k2 => ?_)
  refine W.eq (g2 := F0 mZ 9 ls []) rfl ?_
  refine lv_iload_n hx hb dX7_demanded_9 rfl (lv_at hl 3 rfl) ?_
  refine rx_S (As := [.int ca]) (rest := []) (v := none) S hG (c_X7_requireCategory l G hlf H ca) gX7_demanded_X7_requireCategory rfl ⟨rfl, rfl⟩ nmX7_requireCategory ⟨Nat.le_of_ble_eq_true rfl, Nat.le_of_ble_eq_true rfl⟩ rfl hl.1 rfl (Nat.le_of_ble_eq_true rfl) ⟨Nat.le_of_ble_eq_true rfl, Nat.le_of_ble_eq_true rfl⟩ dX7_demanded_10 hxt hlk ⟨Nat.le_of_ble_eq_true rfl, Nat.le_of_ble_eq_true rfl⟩ (fun E t hE hext => ⟨by first | rfl | (simp only [k1, k2, hE, kOr, ne_eq, not_true_eq_false, not_false_eq_true, and_true, true_and, and_false, false_and, or_true, true_or, or_false, false_or, and_self, or_self, decide_eq_true_eq, ↓reduceIte]; done) | (simp only [k1, k2, hE, kOr, ne_eq, not_true_eq_false, not_false_eq_true, and_true, true_and, and_false, false_and, or_true, true_or, or_false, false_or, and_self, or_self, decide_eq_true_eq, ↓reduceIte]; done) | (simp [k1, k2, hE, kOr]; done) | (simp only [k1, k2, hE, kOr, ne_eq, not_true_eq_false, not_false_eq_true, and_true, true_and, and_false, false_and, or_true, true_or, or_false, false_or, and_self, or_self, decide_eq_true_eq, ↓reduceIte]), hext⟩) (fun k3 => ?_)
  refine W.eq (g2 := F0 mZ 13 ls []) rfl ?_
  refine lv_aload_n hx hb dX7_demanded_13 rfl (lv_at hl 0 rfl) ?_
  refine lv_iload_n hx hb dX7_demanded_14 rfl (lv_at hl 1 rfl) ?_
  refine lv_iload_n hx hb dX7_demanded_15 rfl (lv_at hl 2 rfl) ?_
  refine lv_iconst (v := (-1)) hx hb dX7_demanded_16 (by decide) ?_
  refine rd_V (As := [.int i, .int d, .int (-1)]) (rest := []) (v := some (.int (lH f g i d (-1)))) S hG (c_X7_leastHeight l G A f g H hR i d (-1)) gX7_demanded_X7_leastHeight rfl ⟨rfl, rfl⟩ nmX7_leastHeight ⟨Nat.le_of_ble_eq_true rfl, Nat.le_of_ble_eq_true rfl⟩ (rd_rcv hG.1 (rP_0 hR) rfl) rfl hl.1 rfl (Nat.le_of_ble_eq_true rfl) ⟨Nat.zero_le _, Nat.zero_le _⟩ dX7_demanded_17 ?_
  refine W.eq (g2 := F0 mZ 20 ls [.int (lH f g i d (-1))]) rfl ?_
  refine lv_bipush (v := 10) hx hb dX7_demanded_20 (by decide) ?_
  refine lv_iload_n hx hb dX7_demanded_22 rfl (lv_at hl 3 rfl) ?_
  refine lv_imul hx hb dX7_demanded_23 ?_
  refine lv_iadd hx hb dX7_demanded_24 ?_
  exact rx_iret S hr hlk dX7_demanded_25 (by first | rfl | (simp only [k1, k2, k3, kOr, ne_eq, not_true_eq_false, not_false_eq_true, and_true, true_and, and_false, false_and, or_true, true_or, or_false, false_or, and_self, or_self, decide_eq_true_eq, ↓reduceIte]; done) | (simp only [k1, k2, k3, kOr, ne_eq, not_true_eq_false, not_false_eq_true, and_true, true_and, and_false, false_and, or_true, true_or, or_false, false_or, and_self, or_self, decide_eq_true_eq, ↓reduceIte]; done) | (simp [k1, k2, k3, kOr]; done) | (simp only [k1, k2, k3, kOr, ne_eq, not_true_eq_false, not_false_eq_true, and_true, true_and, and_false, false_and, or_true, true_or, or_false, false_or, and_self, or_self, decide_eq_true_eq, ↓reduceIte])) (congrArg (fun z => some (Value.int z)) (by first | rfl | (simp only [k1, k2, k3, ne_eq, not_true_eq_false, not_false_eq_true, and_true, true_and, and_false, false_and, or_true, true_or, or_false, false_or, and_self, or_self, decide_eq_true_eq, ↓reduceIte]; done) | (simp [k1, k2, k3]; done) | (simp only [k1, k2, k3, ne_eq, not_true_eq_false, not_false_eq_true, and_true, true_and, and_false, false_and, or_true, true_or, or_false, false_or, and_self, or_self, decide_eq_true_eq, ↓reduceIte])))
theorem nmX7_decides : nmV yX7_decides RX7 2 := by decide +kernel
set_option maxHeartbeats 4000000 in
set_option maxRecDepth 100000 in
theorem c_X7_decides (l : Launch) (G : GT) (hlf : l.stackTraces = false) (A : Nat → Nat) (f : Nat → Nat → Int32) (g : Nat → Nat) (H : Heap) (hR : RP G A f g H) (i d : Int32) : RxV l G H yX7_decides wsX7_decides { frames := 8, cells := 1, slots := 6, locals := 124 } [.ref (A 0), .int i, .int d] (kOr (koIx i (g 3)) (koArg d 0 399)) (some (.int (dcd f g i d))) := by
  refine rx_of (cc := cX7_decides) (maxL := 7) (ret := (some .int)) (by decide) rfl (Nat.le_of_ble_eq_true rfl) ?_
  intro pZ eZ sZ mZ bZ meZ cZ ls S hr hlk hxt hl hHs hG
  have S : CallFix pZ mZ cZ cX7_decides 7 sZ _ wsX7_decides RX7 := S
  have hx := S.1
  have hb := S.2.1
  have hown := S.2.2.2.1
  have hts := S.2.2.2.2
  have hl : lv_has ls 7 [(0, .ref (A 0)), (1, .int i), (2, .int d)] := hl
  have w0 := hts (.fieldLink RX7 10 "MinimaRoom" "obstacles" "LMinimaRoom$Obstacles;") (by decide +kernel)
  have iX7 : ∀ w ∈ u_ws RX7 TX7 8, w ∈ wsX7_decides := by decide +kernel
  have iX4 : ∀ w ∈ u_ws RX4 TX4 6, w ∈ wsX7_decides := by decide +kernel
  have hgb := hR.1
  have hg1 := hgb 1
  refine lv_aload_n hx hb dX7_decides_0 rfl (lv_at hl 0 rfl) ?_
  refine lv_iload_n hx hb dX7_decides_1 rfl (lv_at hl 1 rfl) ?_
  refine rx_V (As := [.int i]) (rest := []) (v := none) S hG (c_X7_requireProcedure l G hlf A f g H hR i) gX7_decides_X7_requireProcedure rfl ⟨rfl, rfl⟩ nmX7_requireProcedure ⟨Nat.le_of_ble_eq_true rfl, Nat.le_of_ble_eq_true rfl⟩ (rd_rcv hG.1 (rP_0 hR) rfl) rfl hl.1 rfl (Nat.le_of_ble_eq_true rfl) ⟨Nat.le_of_ble_eq_true rfl, Nat.le_of_ble_eq_true rfl⟩ dX7_decides_2 hxt hlk ⟨Nat.le_of_ble_eq_true rfl, Nat.le_of_ble_eq_true rfl⟩ (fun E t hE hext => ⟨by first | rfl | (simp only [dcd, dcF, hE, kOr, ne_eq, not_true_eq_false, not_false_eq_true, and_true, true_and, and_false, false_and, or_true, true_or, or_false, false_or, and_self, or_self, decide_eq_true_eq, ↓reduceIte]; done) | (simp only [dcd, dcF, hE, kOr, ne_eq, not_true_eq_false, not_false_eq_true, and_true, true_and, and_false, false_and, or_true, true_or, or_false, false_or, and_self, or_self, decide_eq_true_eq, ↓reduceIte]; done) | (simp [dcd, dcF, hE, kOr]; done) | (simp only [dcd, dcF, hE, kOr, ne_eq, not_true_eq_false, not_false_eq_true, and_true, true_and, and_false, false_and, or_true, true_or, or_false, false_or, and_self, or_self, decide_eq_true_eq, ↓reduceIte]), hext⟩) (fun k1 => ?_)
  refine W.eq (g2 := F0 mZ 5 ls []) rfl ?_
  refine lv_iload_n hx hb dX7_decides_5 rfl (lv_at hl 2 rfl) ?_
  refine rx_S (As := [.int d]) (rest := []) (v := none) S hG (c_X7_requireDay l G hlf H d) gX7_decides_X7_requireDay rfl ⟨rfl, rfl⟩ nmX7_requireDay ⟨Nat.le_of_ble_eq_true rfl, Nat.le_of_ble_eq_true rfl⟩ rfl hl.1 rfl (Nat.le_of_ble_eq_true rfl) ⟨Nat.le_of_ble_eq_true rfl, Nat.le_of_ble_eq_true rfl⟩ dX7_decides_6 hxt hlk ⟨Nat.le_of_ble_eq_true rfl, Nat.le_of_ble_eq_true rfl⟩ (fun E t hE hext => ⟨by first | rfl | (simp only [dcd, dcF, k1, hE, kOr, ne_eq, not_true_eq_false, not_false_eq_true, and_true, true_and, and_false, false_and, or_true, true_or, or_false, false_or, and_self, or_self, decide_eq_true_eq, ↓reduceIte]; done) | (simp only [dcd, dcF, k1, hE, kOr, ne_eq, not_true_eq_false, not_false_eq_true, and_true, true_and, and_false, false_and, or_true, true_or, or_false, false_or, and_self, or_self, decide_eq_true_eq, ↓reduceIte]; done) | (simp [dcd, dcF, k1, hE, kOr]; done) | (simp only [dcd, dcF, k1, hE, kOr, ne_eq, not_true_eq_false, not_false_eq_true, and_true, true_and, and_false, false_and, or_true, true_or, or_false, false_or, and_self, or_self, decide_eq_true_eq, ↓reduceIte]), hext⟩) (fun k2 => ?_)
  refine W.eq (g2 := F0 mZ 9 ls []) rfl ?_
  refine lv_aload_n hx hb dX7_decides_9 rfl (lv_at hl 0 rfl) ?_
  refine lv_iload_n hx hb dX7_decides_10 rfl (lv_at hl 1 rfl) ?_
  refine lv_iload_n hx hb dX7_decides_11 rfl (lv_at hl 2 rfl) ?_
  refine lv_iconst (v := (-1)) hx hb dX7_decides_12 (by decide) ?_
  refine rd_V (As := [.int i, .int d, .int (-1)]) (rest := []) (v := some (.int (lH f g i d (-1)))) S hG (c_X7_leastHeight l G A f g H hR i d (-1)) gX7_decides_X7_leastHeight rfl ⟨rfl, rfl⟩ nmX7_leastHeight ⟨Nat.le_of_ble_eq_true rfl, Nat.le_of_ble_eq_true rfl⟩ (rd_rcv hG.1 (rP_0 hR) rfl) rfl hl.1 rfl (Nat.le_of_ble_eq_true rfl) ⟨Nat.zero_le _, Nat.zero_le _⟩ dX7_decides_13 ?_
  refine W.eq (g2 := F0 mZ 16 ls [.int (lH f g i d (-1))]) rfl ?_
  refine lv_topi (fun x3 ex3 => ?_)
  refine lv_istore_n (lv' := [(3, .int x3), (0, .ref (A 0)), (1, .int i), (2, .int d)]) hx hb dX7_decides_16 rfl hl (by decide) rfl (fun ls hl => ?_)
  refine lv_iconst (v := (-1)) hx hb dX7_decides_17 (by decide) ?_
  refine lv_istore (lv' := [(4, .int (-1)), (3, .int x3), (0, .ref (A 0)), (1, .int i), (2, .int d)]) hx hb dX7_decides_18 hl (by decide) rfl (fun ls hl => ?_)
  refine lv_iconst (v := 0) hx hb dX7_decides_20 (by decide) ?_
  refine lv_istore (lv' := [(5, .int 0), (4, .int (-1)), (3, .int x3), (0, .ref (A 0)), (1, .int i), (2, .int d)]) hx hb dX7_decides_21 hl (by decide) rfl (fun ls hl => ?_)
  have loop23 : ∀ (n23 k23 : Nat), k23 + n23 = g 1 → ∀ (z23_3 : Int32), z23_3 = (fl k23 (dcF f g i d) (lH f g i d (-1), -1)).1 → ∀ (z23_4 : Int32), z23_4 = (fl k23 (dcF f g i d) (lH f g i d (-1), -1)).2 → ∀ (ls : Array Slot), lv_has ls 7 [(5, .int (nI k23)), (3, .int z23_3), (4, .int z23_4), (0, .ref (A 0)), (1, .int i), (2, .int d)] → W pZ l eZ ({ frames := 8, cells := 1, slots := 6, locals := 124 } : Room) sZ mZ ([.ref (A 0), .int i, .int d] : List Value).toArray bZ meZ cZ H [] 0 0 (rx_Q bZ H [.ref (A 0), .int i, .int d] sZ (kOr (koIx i (g 3)) (koArg d 0 399)) (some (.int (dcd f g i d)))) (F0 mZ 23 ls []) := by
    intro n23
    induction n23 with
    | zero =>
      intro k23 hk23 z23_3 ez23_3 z23_4 ez23_4 ls hl
      obtain rfl : k23 = g 1 := by omega
      refine lv_iload hx hb dX7_decides_23 (lv_at hl 0 rfl) ?_
      refine lv_aload_n hx hb dX7_decides_25 rfl (lv_at hl 3 rfl) ?_
      refine rd_get (own := RX7) (x := .ref (A 1)) S hG.1 iX7 (rP_0 hR) 0 rfl (by decide) w0 rfl dX7_decides_26 ?_
      refine rd_getN (own := RX7) (x := .int (nI (g 1))) S hG.1 iX4 (rP_1 hR) 5 rfl (by decide) nest_66 rfl dX7_decides_29 ?_
      refine lv_icmp_ge (tgt := 64) hx hb dX7_decides_32 (by decide) (fun c4 => ?_) (fun c4 => ?_)
      · have d4 := Int32.not_lt.mpr c4
        refine lv_iload hx hb dX7_decides_64 (lv_at hl 2 rfl) ?_
        exact rx_iret S hr hlk dX7_decides_66 (by subst ez23_4; subst ez23_3; subst ex3; first | rfl | (simp only [dcd, dcF, k1, k2, kOr, ne_eq, not_true_eq_false, not_false_eq_true, and_true, true_and, and_false, false_and, or_true, true_or, or_false, false_or, and_self, or_self, decide_eq_true_eq, ↓reduceIte]; done) | (simp only [dcd, dcF, k1, k2, c4, d4, kOr, ne_eq, not_true_eq_false, not_false_eq_true, and_true, true_and, and_false, false_and, or_true, true_or, or_false, false_or, and_self, or_self, decide_eq_true_eq, ↓reduceIte]; done) | (simp [dcd, dcF, k1, k2, c4, d4, kOr]; done) | (simp only [dcd, dcF, k1, k2, c4, d4, kOr, ne_eq, not_true_eq_false, not_false_eq_true, and_true, true_and, and_false, false_and, or_true, true_or, or_false, false_or, and_self, or_self, decide_eq_true_eq, ↓reduceIte])) (congrArg (fun z => some (Value.int z)) (by subst ez23_4; subst ez23_3; subst ex3; first | rfl | (simp only [dcd, dcF, k1, k2, c4, d4, ne_eq, not_true_eq_false, not_false_eq_true, and_true, true_and, and_false, false_and, or_true, true_or, or_false, false_or, and_self, or_self, decide_eq_true_eq, ↓reduceIte]; done) | (simp [dcd, dcF, k1, k2, c4, d4]; done) | (simp only [dcd, dcF, k1, k2, c4, d4, ne_eq, not_true_eq_false, not_false_eq_true, and_true, true_and, and_false, false_and, or_true, true_or, or_false, false_or, and_self, or_self, decide_eq_true_eq, ↓reduceIte])))
      · exact absurd c4 (by first | exact fun h => absurd (Int32.le_refl _) h | exact nI_nlt (by omega) (by omega) | exact nI_ge (by omega) (by omega) | exact fun h => h (nI_lt (by omega) (by omega)) | exact fun h => h (nI_le (by omega) (by omega)) | exact fun h => h (lp_le_cnt _) | exact lp_nle (by omega))
    | succ n23 ih23 =>
      intro k23 hk23 z23_3 ez23_3 z23_4 ez23_4 ls hl
      refine lv_iload hx hb dX7_decides_23 (lv_at hl 0 rfl) ?_
      refine lv_aload_n hx hb dX7_decides_25 rfl (lv_at hl 3 rfl) ?_
      refine rd_get (own := RX7) (x := .ref (A 1)) S hG.1 iX7 (rP_0 hR) 0 rfl (by decide) w0 rfl dX7_decides_26 ?_
      refine rd_getN (own := RX7) (x := .int (nI (g 1))) S hG.1 iX4 (rP_1 hR) 5 rfl (by decide) nest_66 rfl dX7_decides_29 ?_
      refine lv_icmp_ge (tgt := 64) hx hb dX7_decides_32 (by decide) (fun c5 => ?_) (fun c5 => ?_)
      · exact absurd c5 (by first | exact fun h => absurd (Int32.le_refl _) h | exact nI_nlt (by omega) (by omega) | exact nI_ge (by omega) (by omega) | exact fun h => h (nI_lt (by omega) (by omega)) | exact fun h => h (nI_le (by omega) (by omega)) | exact fun h => h (lp_le_cnt _) | exact lp_nle (by omega))
      · have d5 := Int32.not_le.mp c5
        refine lv_aload_n hx hb dX7_decides_35 rfl (lv_at hl 3 rfl) ?_
        refine lv_iload_n hx hb dX7_decides_36 rfl (lv_at hl 4 rfl) ?_
        refine lv_iload_n hx hb dX7_decides_37 rfl (lv_at hl 5 rfl) ?_
        refine lv_iload hx hb dX7_decides_38 (lv_at hl 0 rfl) ?_
        refine rd_V (As := [.int i, .int d, .int (nI k23)]) (rest := []) (v := some (.int (lH f g i d (nI k23)))) S hG (c_X7_leastHeight l G A f g H hR i d (nI k23)) gX7_decides_X7_leastHeight rfl ⟨rfl, rfl⟩ nmX7_leastHeight ⟨Nat.le_of_ble_eq_true rfl, Nat.le_of_ble_eq_true rfl⟩ (rd_rcv hG.1 (rP_0 hR) rfl) rfl hl.1 rfl (Nat.le_of_ble_eq_true rfl) ⟨Nat.zero_le _, Nat.zero_le _⟩ dX7_decides_40 ?_
        refine W.eq (g2 := F0 mZ 43 ls [.int (lH f g i d (nI k23))]) rfl ?_
        refine lv_topi (fun x6 ex6 => ?_)
        refine lv_istore (lv' := [(6, .int x6), (5, .int (nI k23)), (3, .int z23_3), (4, .int z23_4), (0, .ref (A 0)), (1, .int i), (2, .int d)]) hx hb dX7_decides_43 hl (by decide) rfl (fun ls hl => ?_)
        refine lv_iload hx hb dX7_decides_45 (lv_at hl 0 rfl) ?_
        refine lv_iload_n hx hb dX7_decides_47 rfl (lv_at hl 2 rfl) ?_
        refine lv_icmp_ge (tgt := 58) hx hb dX7_decides_48 (by decide) (fun c7 => ?_) (fun c7 => ?_)
        · have d7 := Int32.not_lt.mpr c7
          refine lv_iinc (v := nI (k23 + 1)) (lv' := [(5, .int (nI (k23 + 1))), (6, .int x6), (3, .int z23_3), (4, .int z23_4), (0, .ref (A 0)), (1, .int i), (2, .int d)]) hx hb dX7_decides_58 hl (k := 1) rfl (nI_inc _) (by decide) rfl (fun ls hl => ?_)
          refine lv_goto (tgt := 23) hx hb dX7_decides_61 (by decide) ?_
          exact ih23 (k23 + 1) (by omega) _ (by subst ex6; subst ez23_4; subst ez23_3; subst ex3; first | rfl | (simp only [fl, dcd, dcF, k1, k2, c5, d5, c7, d7, ne_eq, not_true_eq_false, not_false_eq_true, and_true, true_and, and_false, false_and, or_true, true_or, or_false, false_or, and_self, or_self, decide_eq_true_eq, ↓reduceIte]; done) | (simp [fl, dcd, dcF, k1, k2, c5, d5, c7, d7]; done) | (simp only [fl, dcd, dcF, k1, k2, c5, d5, c7, d7, ne_eq, not_true_eq_false, not_false_eq_true, and_true, true_and, and_false, false_and, or_true, true_or, or_false, false_or, and_self, or_self, decide_eq_true_eq, ↓reduceIte])) _ (by subst ex6; subst ez23_4; subst ez23_3; subst ex3; first | rfl | (simp only [fl, dcd, dcF, k1, k2, c5, d5, c7, d7, ne_eq, not_true_eq_false, not_false_eq_true, and_true, true_and, and_false, false_and, or_true, true_or, or_false, false_or, and_self, or_self, decide_eq_true_eq, ↓reduceIte]; done) | (simp [fl, dcd, dcF, k1, k2, c5, d5, c7, d7]; done) | (simp only [fl, dcd, dcF, k1, k2, c5, d5, c7, d7, ne_eq, not_true_eq_false, not_false_eq_true, and_true, true_and, and_false, false_and, or_true, true_or, or_false, false_or, and_self, or_self, decide_eq_true_eq, ↓reduceIte])) ls (lv_sub hl [0, 2, 3, 4, 5, 6] rfl)
        · have d7 := Int32.not_le.mp c7
          refine lv_iload hx hb dX7_decides_51 (lv_at hl 0 rfl) ?_
          refine lv_istore_n (lv' := [(3, .int x6), (6, .int x6), (5, .int (nI k23)), (4, .int z23_4), (0, .ref (A 0)), (1, .int i), (2, .int d)]) hx hb dX7_decides_53 rfl hl (by decide) rfl (fun ls hl => ?_)
          refine lv_iload hx hb dX7_decides_54 (lv_at hl 2 rfl) ?_
          refine lv_topi (fun x8 ex8 => ?_)
          refine lv_istore (lv' := [(4, .int x8), (3, .int x6), (6, .int x6), (5, .int (nI k23)), (0, .ref (A 0)), (1, .int i), (2, .int d)]) hx hb dX7_decides_56 hl (by decide) rfl (fun ls hl => ?_)
          refine lv_iinc (v := nI (k23 + 1)) (lv' := [(5, .int (nI (k23 + 1))), (4, .int x8), (3, .int x6), (6, .int x6), (0, .ref (A 0)), (1, .int i), (2, .int d)]) hx hb dX7_decides_58 hl (k := 3) rfl (nI_inc _) (by decide) rfl (fun ls hl => ?_)
          refine lv_goto (tgt := 23) hx hb dX7_decides_61 (by decide) ?_
          exact ih23 (k23 + 1) (by omega) _ (by subst ex8; subst ex6; subst ez23_4; subst ez23_3; subst ex3; first | rfl | (simp only [fl, dcd, dcF, k1, k2, c5, d5, c7, d7, ne_eq, not_true_eq_false, not_false_eq_true, and_true, true_and, and_false, false_and, or_true, true_or, or_false, false_or, and_self, or_self, decide_eq_true_eq, ↓reduceIte]; done) | (simp [fl, dcd, dcF, k1, k2, c5, d5, c7, d7]; done) | (simp only [fl, dcd, dcF, k1, k2, c5, d5, c7, d7, ne_eq, not_true_eq_false, not_false_eq_true, and_true, true_and, and_false, false_and, or_true, true_or, or_false, false_or, and_self, or_self, decide_eq_true_eq, ↓reduceIte])) _ (by subst ex8; subst ex6; subst ez23_4; subst ez23_3; subst ex3; first | rfl | (simp only [fl, dcd, dcF, k1, k2, c5, d5, c7, d7, ne_eq, not_true_eq_false, not_false_eq_true, and_true, true_and, and_false, false_and, or_true, true_or, or_false, false_or, and_self, or_self, decide_eq_true_eq, ↓reduceIte]; done) | (simp [fl, dcd, dcF, k1, k2, c5, d5, c7, d7]; done) | (simp only [fl, dcd, dcF, k1, k2, c5, d5, c7, d7, ne_eq, not_true_eq_false, not_false_eq_true, and_true, true_and, and_false, false_and, or_true, true_or, or_false, false_or, and_self, or_self, decide_eq_true_eq, ↓reduceIte])) ls (lv_sub hl [0, 2, 1, 4, 5, 6] rfl)
  exact loop23 (g 1) 0 (by omega) _ (by subst ex3; first | rfl | (simp only [fl, dcd, dcF, k1, k2, ne_eq, not_true_eq_false, not_false_eq_true, and_true, true_and, and_false, false_and, or_true, true_or, or_false, false_or, and_self, or_self, decide_eq_true_eq, ↓reduceIte]; done) | (simp [fl, dcd, dcF, k1, k2]; done) | (simp only [fl, dcd, dcF, k1, k2, ne_eq, not_true_eq_false, not_false_eq_true, and_true, true_and, and_false, false_and, or_true, true_or, or_false, false_or, and_self, or_self, decide_eq_true_eq, ↓reduceIte])) _ (by subst ex3; first | rfl | (simp only [fl, dcd, dcF, k1, k2, ne_eq, not_true_eq_false, not_false_eq_true, and_true, true_and, and_false, false_and, or_true, true_or, or_false, false_or, and_self, or_self, decide_eq_true_eq, ↓reduceIte]; done) | (simp [fl, dcd, dcF, k1, k2]; done) | (simp only [fl, dcd, dcF, k1, k2, ne_eq, not_true_eq_false, not_false_eq_true, and_true, true_and, and_false, false_and, or_true, true_or, or_false, false_or, and_self, or_self, decide_eq_true_eq, ↓reduceIte])) ls (lv_sub hl [0, 2, 1, 3, 4, 5] rfl)
theorem nmX7_chart : nmV yX7_chart RX7 2 := by decide +kernel
set_option maxHeartbeats 4000000 in
set_option maxRecDepth 100000 in
theorem c_X7_chart (l : Launch) (G : GT) (hlf : l.stackTraces = false) (A : Nat → Nat) (f : Nat → Nat → Int32) (g : Nat → Nat) (H : Heap) (hR : RP G A f g H) (i d : Int32) : RxV l G H yX7_chart wsX7_chart { frames := 8, cells := 1, slots := 6, locals := 124 } [.ref (A 0), .int i, .int d] (kOr (koIx i (g 3)) (koArg d 0 399)) (some (.int (hOn f i d (g 4)))) := by
  refine rx_of (cc := cX7_chart) (maxL := 3) (ret := (some .int)) (by decide) rfl (Nat.le_of_ble_eq_true rfl) ?_
  intro pZ eZ sZ mZ bZ meZ cZ ls S hr hlk hxt hl hHs hG
  have S : CallFix pZ mZ cZ cX7_chart 3 sZ _ wsX7_chart RX7 := S
  have hx := S.1
  have hb := S.2.1
  have hown := S.2.2.2.1
  have hts := S.2.2.2.2
  have hl : lv_has ls 3 [(0, .ref (A 0)), (1, .int i), (2, .int d)] := hl
  have w0 := hts (.fieldLink RX7 33 "MinimaRoom" "amendments" "LMinimaRoom$Amendments;") (by decide +kernel)
  have iX7 : ∀ w ∈ u_ws RX7 TX7 8, w ∈ wsX7_chart := by decide +kernel
  have hgb := hR.1
  refine lv_aload_n hx hb dX7_chart_0 rfl (lv_at hl 0 rfl) ?_
  refine lv_iload_n hx hb dX7_chart_1 rfl (lv_at hl 1 rfl) ?_
  refine rx_V (As := [.int i]) (rest := []) (v := none) S hG (c_X7_requireProcedure l G hlf A f g H hR i) gX7_chart_X7_requireProcedure rfl ⟨rfl, rfl⟩ nmX7_requireProcedure ⟨Nat.le_of_ble_eq_true rfl, Nat.le_of_ble_eq_true rfl⟩ (rd_rcv hG.1 (rP_0 hR) rfl) rfl hl.1 rfl (Nat.le_of_ble_eq_true rfl) ⟨Nat.le_of_ble_eq_true rfl, Nat.le_of_ble_eq_true rfl⟩ dX7_chart_2 hxt hlk ⟨Nat.le_of_ble_eq_true rfl, Nat.le_of_ble_eq_true rfl⟩ (fun E t hE hext => ⟨by first | rfl | (simp only [hE, kOr, ne_eq, not_true_eq_false, not_false_eq_true, and_true, true_and, and_false, false_and, or_true, true_or, or_false, false_or, and_self, or_self, decide_eq_true_eq, ↓reduceIte]; done) | (simp only [hE, kOr, ne_eq, not_true_eq_false, not_false_eq_true, and_true, true_and, and_false, false_and, or_true, true_or, or_false, false_or, and_self, or_self, decide_eq_true_eq, ↓reduceIte]; done) | (simp [hE, kOr]; done) | (simp only [hE, kOr, ne_eq, not_true_eq_false, not_false_eq_true, and_true, true_and, and_false, false_and, or_true, true_or, or_false, false_or, and_self, or_self, decide_eq_true_eq, ↓reduceIte]), hext⟩) (fun k1 => ?_)
  refine W.eq (g2 := F0 mZ 5 ls []) rfl ?_
  refine lv_iload_n hx hb dX7_chart_5 rfl (lv_at hl 2 rfl) ?_
  refine rx_S (As := [.int d]) (rest := []) (v := none) S hG (c_X7_requireDay l G hlf H d) gX7_chart_X7_requireDay rfl ⟨rfl, rfl⟩ nmX7_requireDay ⟨Nat.le_of_ble_eq_true rfl, Nat.le_of_ble_eq_true rfl⟩ rfl hl.1 rfl (Nat.le_of_ble_eq_true rfl) ⟨Nat.le_of_ble_eq_true rfl, Nat.le_of_ble_eq_true rfl⟩ dX7_chart_6 hxt hlk ⟨Nat.le_of_ble_eq_true rfl, Nat.le_of_ble_eq_true rfl⟩ (fun E t hE hext => ⟨by first | rfl | (simp only [k1, hE, kOr, ne_eq, not_true_eq_false, not_false_eq_true, and_true, true_and, and_false, false_and, or_true, true_or, or_false, false_or, and_self, or_self, decide_eq_true_eq, ↓reduceIte]; done) | (simp only [k1, hE, kOr, ne_eq, not_true_eq_false, not_false_eq_true, and_true, true_and, and_false, false_and, or_true, true_or, or_false, false_or, and_self, or_self, decide_eq_true_eq, ↓reduceIte]; done) | (simp [k1, hE, kOr]; done) | (simp only [k1, hE, kOr, ne_eq, not_true_eq_false, not_false_eq_true, and_true, true_and, and_false, false_and, or_true, true_or, or_false, false_or, and_self, or_self, decide_eq_true_eq, ↓reduceIte]), hext⟩) (fun k2 => ?_)
  refine W.eq (g2 := F0 mZ 9 ls []) rfl ?_
  refine lv_aload_n hx hb dX7_chart_9 rfl (lv_at hl 0 rfl) ?_
  refine rd_get (own := RX7) (x := .ref (A 4)) S hG.1 iX7 (rP_0 hR) 3 rfl (by decide) w0 rfl dX7_chart_10 ?_
  refine lv_iload_n hx hb dX7_chart_13 rfl (lv_at hl 1 rfl) ?_
  refine lv_iload_n hx hb dX7_chart_14 rfl (lv_at hl 2 rfl) ?_
  refine rd_V (As := [.int i, .int d]) (rest := []) (v := some (.int (hOn f i d (g 4)))) S hG (c_X1_heightOn l G A f g H hR i d) gX7_chart_X1_heightOn rfl ⟨rfl, rfl⟩ nmX1_heightOn ⟨Nat.le_of_ble_eq_true rfl, Nat.le_of_ble_eq_true rfl⟩ (rd_rcv hG.1 (rP_4 hR) rfl) rfl hl.1 rfl (Nat.le_of_ble_eq_true rfl) ⟨Nat.zero_le _, Nat.zero_le _⟩ dX7_chart_15 ?_
  refine W.eq (g2 := F0 mZ 18 ls [.int (hOn f i d (g 4))]) rfl ?_
  exact rx_iret S hr hlk dX7_chart_18 (by first | rfl | (simp only [k1, k2, kOr, ne_eq, not_true_eq_false, not_false_eq_true, and_true, true_and, and_false, false_and, or_true, true_or, or_false, false_or, and_self, or_self, decide_eq_true_eq, ↓reduceIte]; done) | (simp only [k1, k2, kOr, ne_eq, not_true_eq_false, not_false_eq_true, and_true, true_and, and_false, false_and, or_true, true_or, or_false, false_or, and_self, or_self, decide_eq_true_eq, ↓reduceIte]; done) | (simp [k1, k2, kOr]; done) | (simp only [k1, k2, kOr, ne_eq, not_true_eq_false, not_false_eq_true, and_true, true_and, and_false, false_and, or_true, true_or, or_false, false_or, and_self, or_self, decide_eq_true_eq, ↓reduceIte])) (congrArg (fun z => some (Value.int z)) (by first | rfl | (simp only [k1, k2, ne_eq, not_true_eq_false, not_false_eq_true, and_true, true_and, and_false, false_and, or_true, true_or, or_false, false_or, and_self, or_self, decide_eq_true_eq, ↓reduceIte]; done) | (simp [k1, k2]; done) | (simp only [k1, k2, ne_eq, not_true_eq_false, not_false_eq_true, and_true, true_and, and_false, false_and, or_true, true_or, or_false, false_or, and_self, or_self, decide_eq_true_eq, ↓reduceIte])))
theorem nmX7_inForce : nmV yX7_inForce RX7 3 := by decide +kernel
set_option maxHeartbeats 4000000 in
set_option maxRecDepth 100000 in
theorem c_X7_inForce (l : Launch) (G : GT) (hlf : l.stackTraces = false) (A : Nat → Nat) (f : Nat → Nat → Int32) (g : Nat → Nat) (H : Heap) (hR : RP G A f g H) (i d ca : Int32) : RxV l G H yX7_inForce wsX7_inForce { frames := 8, cells := 1, slots := 6, locals := 124 } [.ref (A 0), .int i, .int d, .int ca] (kOr (koIx i (g 3)) (kOr (koArg d 0 399) (koArg ca 0 3))) (some (.int (fCat (hIF f g i d) ca))) := by
  refine rx_of (cc := cX7_inForce) (maxL := 4) (ret := (some .int)) (by decide) rfl (Nat.le_of_ble_eq_true rfl) ?_
  intro pZ eZ sZ mZ bZ meZ cZ ls S hr hlk hxt hl hHs hG
  have S : CallFix pZ mZ cZ cX7_inForce 4 sZ _ wsX7_inForce RX7 := S
  have hx := S.1
  have hb := S.2.1
  have hown := S.2.2.2.1
  have hts := S.2.2.2.2
  have hl : lv_has ls 4 [(0, .ref (A 0)), (1, .int i), (2, .int d), (3, .int ca)] := hl
  have hgb := hR.1
  refine lv_aload_n hx hb dX7_inForce_0 rfl (lv_at hl 0 rfl) ?_
  refine lv_iload_n hx hb dX7_inForce_1 rfl (lv_at hl 1 rfl) ?_
  refine rx_V (As := [.int i]) (rest := []) (v := none) S hG (c_X7_requireProcedure l G hlf A f g H hR i) gX7_inForce_X7_requireProcedure rfl ⟨rfl, rfl⟩ nmX7_requireProcedure ⟨Nat.le_of_ble_eq_true rfl, Nat.le_of_ble_eq_true rfl⟩ (rd_rcv hG.1 (rP_0 hR) rfl) rfl hl.1 rfl (Nat.le_of_ble_eq_true rfl) ⟨Nat.le_of_ble_eq_true rfl, Nat.le_of_ble_eq_true rfl⟩ dX7_inForce_2 hxt hlk ⟨Nat.le_of_ble_eq_true rfl, Nat.le_of_ble_eq_true rfl⟩ (fun E t hE hext => ⟨by first | rfl | (simp only [hE, kOr, ne_eq, not_true_eq_false, not_false_eq_true, and_true, true_and, and_false, false_and, or_true, true_or, or_false, false_or, and_self, or_self, decide_eq_true_eq, ↓reduceIte]; done) | (simp only [hE, kOr, ne_eq, not_true_eq_false, not_false_eq_true, and_true, true_and, and_false, false_and, or_true, true_or, or_false, false_or, and_self, or_self, decide_eq_true_eq, ↓reduceIte]; done) | (simp [hE, kOr]; done) | (simp only [hE, kOr, ne_eq, not_true_eq_false, not_false_eq_true, and_true, true_and, and_false, false_and, or_true, true_or, or_false, false_or, and_self, or_self, decide_eq_true_eq, ↓reduceIte]), hext⟩) (fun k1 => ?_)
  refine W.eq (g2 := F0 mZ 5 ls []) rfl ?_
  refine lv_iload_n hx hb dX7_inForce_5 rfl (lv_at hl 2 rfl) ?_
  refine rx_S (As := [.int d]) (rest := []) (v := none) S hG (c_X7_requireDay l G hlf H d) gX7_inForce_X7_requireDay rfl ⟨rfl, rfl⟩ nmX7_requireDay ⟨Nat.le_of_ble_eq_true rfl, Nat.le_of_ble_eq_true rfl⟩ rfl hl.1 rfl (Nat.le_of_ble_eq_true rfl) ⟨Nat.le_of_ble_eq_true rfl, Nat.le_of_ble_eq_true rfl⟩ dX7_inForce_6 hxt hlk ⟨Nat.le_of_ble_eq_true rfl, Nat.le_of_ble_eq_true rfl⟩ (fun E t hE hext => ⟨by first | rfl | (simp only [k1, hE, kOr, ne_eq, not_true_eq_false, not_false_eq_true, and_true, true_and, and_false, false_and, or_true, true_or, or_false, false_or, and_self, or_self, decide_eq_true_eq, ↓reduceIte]; done) | (simp only [k1, hE, kOr, ne_eq, not_true_eq_false, not_false_eq_true, and_true, true_and, and_false, false_and, or_true, true_or, or_false, false_or, and_self, or_self, decide_eq_true_eq, ↓reduceIte]; done) | (simp [k1, hE, kOr]; done) | (simp only [k1, hE, kOr, ne_eq, not_true_eq_false, not_false_eq_true, and_true, true_and, and_false, false_and, or_true, true_or, or_false, false_or, and_self, or_self, decide_eq_true_eq, ↓reduceIte]), hext⟩) (fun k2 => ?_)
  refine W.eq (g2 := F0 mZ 9 ls []) rfl ?_
  refine lv_iload_n hx hb dX7_inForce_9 rfl (lv_at hl 3 rfl) ?_
  refine rx_S (As := [.int ca]) (rest := []) (v := none) S hG (c_X7_requireCategory l G hlf H ca) gX7_inForce_X7_requireCategory rfl ⟨rfl, rfl⟩ nmX7_requireCategory ⟨Nat.le_of_ble_eq_true rfl, Nat.le_of_ble_eq_true rfl⟩ rfl hl.1 rfl (Nat.le_of_ble_eq_true rfl) ⟨Nat.le_of_ble_eq_true rfl, Nat.le_of_ble_eq_true rfl⟩ dX7_inForce_10 hxt hlk ⟨Nat.le_of_ble_eq_true rfl, Nat.le_of_ble_eq_true rfl⟩ (fun E t hE hext => ⟨by first | rfl | (simp only [k1, k2, hE, kOr, ne_eq, not_true_eq_false, not_false_eq_true, and_true, true_and, and_false, false_and, or_true, true_or, or_false, false_or, and_self, or_self, decide_eq_true_eq, ↓reduceIte]; done) | (simp only [k1, k2, hE, kOr, ne_eq, not_true_eq_false, not_false_eq_true, and_true, true_and, and_false, false_and, or_true, true_or, or_false, false_or, and_self, or_self, decide_eq_true_eq, ↓reduceIte]; done) | (simp [k1, k2, hE, kOr]; done) | (simp only [k1, k2, hE, kOr, ne_eq, not_true_eq_false, not_false_eq_true, and_true, true_and, and_false, false_and, or_true, true_or, or_false, false_or, and_self, or_self, decide_eq_true_eq, ↓reduceIte]), hext⟩) (fun k3 => ?_)
  refine W.eq (g2 := F0 mZ 13 ls []) rfl ?_
  refine lv_aload_n hx hb dX7_inForce_13 rfl (lv_at hl 0 rfl) ?_
  refine lv_iload_n hx hb dX7_inForce_14 rfl (lv_at hl 1 rfl) ?_
  refine lv_iload_n hx hb dX7_inForce_15 rfl (lv_at hl 2 rfl) ?_
  refine rd_V (As := [.int i, .int d]) (rest := []) (v := some (.int (hIF f g i d))) S hG (c_X7_heightInForce l G A f g H hR i d) gX7_inForce_X7_heightInForce rfl ⟨rfl, rfl⟩ nmX7_heightInForce ⟨Nat.le_of_ble_eq_true rfl, Nat.le_of_ble_eq_true rfl⟩ (rd_rcv hG.1 (rP_0 hR) rfl) rfl hl.1 rfl (Nat.le_of_ble_eq_true rfl) ⟨Nat.zero_le _, Nat.zero_le _⟩ dX7_inForce_16 ?_
  refine W.eq (g2 := F0 mZ 19 ls [.int (hIF f g i d)]) rfl ?_
  refine lv_iload_n hx hb dX7_inForce_19 rfl (lv_at hl 3 rfl) ?_
  refine rd_S (As := [.int (hIF f g i d), .int ca]) (rest := []) (v := some (.int (fCat (hIF f g i d) ca))) S hG (c_X7_forCategory l G H (hIF f g i d) ca) gX7_inForce_X7_forCategory rfl ⟨rfl, rfl⟩ nmX7_forCategory ⟨Nat.le_of_ble_eq_true rfl, Nat.le_of_ble_eq_true rfl⟩ rfl hl.1 rfl (Nat.le_of_ble_eq_true rfl) ⟨Nat.zero_le _, Nat.zero_le _⟩ dX7_inForce_20 ?_
  refine W.eq (g2 := F0 mZ 23 ls [.int (fCat (hIF f g i d) ca)]) rfl ?_
  exact rx_iret S hr hlk dX7_inForce_23 (by first | rfl | (simp only [k1, k2, k3, kOr, ne_eq, not_true_eq_false, not_false_eq_true, and_true, true_and, and_false, false_and, or_true, true_or, or_false, false_or, and_self, or_self, decide_eq_true_eq, ↓reduceIte]; done) | (simp only [k1, k2, k3, kOr, ne_eq, not_true_eq_false, not_false_eq_true, and_true, true_and, and_false, false_and, or_true, true_or, or_false, false_or, and_self, or_self, decide_eq_true_eq, ↓reduceIte]; done) | (simp [k1, k2, k3, kOr]; done) | (simp only [k1, k2, k3, kOr, ne_eq, not_true_eq_false, not_false_eq_true, and_true, true_and, and_false, false_and, or_true, true_or, or_false, false_or, and_self, or_self, decide_eq_true_eq, ↓reduceIte])) (congrArg (fun z => some (Value.int z)) (by first | rfl | (simp only [k1, k2, k3, ne_eq, not_true_eq_false, not_false_eq_true, and_true, true_and, and_false, false_and, or_true, true_or, or_false, false_or, and_self, or_self, decide_eq_true_eq, ↓reduceIte]; done) | (simp [k1, k2, k3]; done) | (simp only [k1, k2, k3, ne_eq, not_true_eq_false, not_false_eq_true, and_true, true_and, and_false, false_and, or_true, true_or, or_false, false_or, and_self, or_self, decide_eq_true_eq, ↓reduceIte])))
theorem nmX7_ofNotice : nmV yX7_ofNotice RX7 2 := by decide +kernel
set_option maxHeartbeats 4000000 in
set_option maxRecDepth 100000 in
theorem c_X7_ofNotice (l : Launch) (G : GT) (hlf : l.stackTraces = false) (A : Nat → Nat) (f : Nat → Nat → Int32) (g : Nat → Nat) (H : Heap) (hR : RP G A f g H) (i w : Int32) : RxV l G H yX7_ofNotice wsX7_ofNotice { frames := 7, cells := 1, slots := 6, locals := 104 } [.ref (A 0), .int i, .int w] (kOr (koIx i (g 5)) (koArg w 0 5)) (some (.int (ofNo f g i w))) := by
  refine rx_of (cc := cX7_ofNotice) (maxL := 3) (ret := (some .int)) (by decide) rfl (Nat.le_of_ble_eq_true rfl) ?_
  intro pZ eZ sZ mZ bZ meZ cZ ls S hr hlk hxt hl hHs hG
  have S : CallFix pZ mZ cZ cX7_ofNotice 3 sZ _ wsX7_ofNotice RX7 := S
  have hx := S.1
  have hb := S.2.1
  have hown := S.2.2.2.1
  have hts := S.2.2.2.2
  have hl : lv_has ls 3 [(0, .ref (A 0)), (1, .int i), (2, .int w)] := hl
  have w0 := hts (.fieldLink RX7 40 "MinimaRoom" "notices" "LMinimaRoom$Notices;") (by decide +kernel)
  have w1 := hts (.fieldLink RX7 51 "MinimaRoom" "now" "I") (by decide +kernel)
  have iX7 : ∀ w ∈ u_ws RX7 TX7 8, w ∈ wsX7_ofNotice := by decide +kernel
  have iX3 : ∀ w ∈ u_ws RX3 TX3 7, w ∈ wsX7_ofNotice := by decide +kernel
  have hgb := hR.1
  refine lv_aload_n hx hb dX7_ofNotice_0 rfl (lv_at hl 0 rfl) ?_
  refine lv_iload_n hx hb dX7_ofNotice_1 rfl (lv_at hl 1 rfl) ?_
  refine rx_V (As := [.int i]) (rest := []) (v := none) S hG (c_X7_requireNotice l G hlf A f g H hR i) gX7_ofNotice_X7_requireNotice rfl ⟨rfl, rfl⟩ nmX7_requireNotice ⟨Nat.le_of_ble_eq_true rfl, Nat.le_of_ble_eq_true rfl⟩ (rd_rcv hG.1 (rP_0 hR) rfl) rfl hl.1 rfl (Nat.le_of_ble_eq_true rfl) ⟨Nat.le_of_ble_eq_true rfl, Nat.le_of_ble_eq_true rfl⟩ dX7_ofNotice_2 hxt hlk ⟨Nat.le_of_ble_eq_true rfl, Nat.le_of_ble_eq_true rfl⟩ (fun E t hE hext => ⟨by first | rfl | (simp only [ofNo, hE, kOr, ne_eq, not_true_eq_false, not_false_eq_true, and_true, true_and, and_false, false_and, or_true, true_or, or_false, false_or, and_self, or_self, decide_eq_true_eq, ↓reduceIte]; done) | (simp only [ofNo, hE, kOr, ne_eq, not_true_eq_false, not_false_eq_true, and_true, true_and, and_false, false_and, or_true, true_or, or_false, false_or, and_self, or_self, decide_eq_true_eq, ↓reduceIte]; done) | (simp [ofNo, hE, kOr]; done) | (simp only [ofNo, hE, kOr, ne_eq, not_true_eq_false, not_false_eq_true, and_true, true_and, and_false, false_and, or_true, true_or, or_false, false_or, and_self, or_self, decide_eq_true_eq, ↓reduceIte]), hext⟩) (fun k1 => ?_)
  refine W.eq (g2 := F0 mZ 5 ls []) rfl ?_
  refine lv_iload_n hx hb dX7_ofNotice_5 rfl (lv_at hl 2 rfl) ?_
  refine lv_iconst (v := 0) hx hb dX7_ofNotice_6 (by decide) ?_
  refine lv_iconst (v := 5) hx hb dX7_ofNotice_7 (by decide) ?_
  refine rx_S (As := [.int w, .int 0, .int 5]) (rest := []) (v := none) S hG (c_X7_requireArgument l G hlf H w 0 5) gX7_ofNotice_X7_requireArgument rfl ⟨rfl, rfl⟩ nmX7_requireArgument ⟨Nat.le_of_ble_eq_true rfl, Nat.le_of_ble_eq_true rfl⟩ rfl hl.1 rfl (Nat.le_of_ble_eq_true rfl) ⟨Nat.le_of_ble_eq_true rfl, Nat.le_of_ble_eq_true rfl⟩ dX7_ofNotice_8 hxt hlk ⟨Nat.le_of_ble_eq_true rfl, Nat.le_of_ble_eq_true rfl⟩ (fun E t hE hext => ⟨by first | rfl | (simp only [ofNo, k1, hE, kOr, ne_eq, not_true_eq_false, not_false_eq_true, and_true, true_and, and_false, false_and, or_true, true_or, or_false, false_or, and_self, or_self, decide_eq_true_eq, ↓reduceIte]; done) | (simp only [ofNo, k1, hE, kOr, ne_eq, not_true_eq_false, not_false_eq_true, and_true, true_and, and_false, false_and, or_true, true_or, or_false, false_or, and_self, or_self, decide_eq_true_eq, ↓reduceIte]; done) | (simp [ofNo, k1, hE, kOr]; done) | (simp only [ofNo, k1, hE, kOr, ne_eq, not_true_eq_false, not_false_eq_true, and_true, true_and, and_false, false_and, or_true, true_or, or_false, false_or, and_self, or_self, decide_eq_true_eq, ↓reduceIte]), hext⟩) (fun k2 => ?_)
  refine W.eq (g2 := F0 mZ 11 ls []) rfl ?_
  refine lv_iload_n hx hb dX7_ofNotice_11 rfl (lv_at hl 2 rfl) ?_
  by_cases c3 : w = 0
  · refine lv_tableIn (off := 36) (tgt := 48) hx hb dX7_ofNotice_12 (by rw [c3]; decide) (by rw [c3]; decide) (by rw [c3]; rfl) (by decide) ?_
    refine lv_aload_n hx hb dX7_ofNotice_48 rfl (lv_at hl 0 rfl) ?_
    refine rd_get (own := RX7) (x := .ref (A 5)) S hG.1 iX7 (rP_0 hR) 4 rfl (by decide) w0 rfl dX7_ofNotice_49 ?_
    refine rd_getN (own := RX7) (x := .ref (A 22)) S hG.1 iX3 (rP_5 hR) 0 rfl (by decide) nest_162 rfl dX7_ofNotice_52 ?_
    refine lv_iload_n hx hb dX7_ofNotice_55 rfl (lv_at hl 1 rfl) ?_
    refine rd_V (As := [.int i]) (rest := []) (v := some (.int (rowAt 16 (f 22) i))) S hG (c_X6_at l G H (A 22) (A 42) 16 (f 22) (by decide) (rP_22 hR) (rP_42 hR) i) gX7_ofNotice_X6_at rfl ⟨rfl, rfl⟩ nmX6_at ⟨Nat.le_of_ble_eq_true rfl, Nat.le_of_ble_eq_true rfl⟩ (rd_rcv hG.1 (rP_22 hR) rfl) rfl hl.1 rfl (Nat.le_of_ble_eq_true rfl) ⟨Nat.zero_le _, Nat.zero_le _⟩ dX7_ofNotice_56 ?_
    refine W.eq (g2 := F0 mZ 59 ls [.int (rowAt 16 (f 22) i)]) rfl ?_
    exact rx_iret S hr hlk dX7_ofNotice_59 (by first | rfl | (simp only [ofNo, k1, k2, kOr, ne_eq, not_true_eq_false, not_false_eq_true, and_true, true_and, and_false, false_and, or_true, true_or, or_false, false_or, and_self, or_self, decide_eq_true_eq, ↓reduceIte]; done) | (simp only [ofNo, k1, k2, c3, kOr, ne_eq, not_true_eq_false, not_false_eq_true, and_true, true_and, and_false, false_and, or_true, true_or, or_false, false_or, and_self, or_self, decide_eq_true_eq, ↓reduceIte]; done) | (simp [ofNo, k1, k2, c3, kOr]; done) | (simp only [ofNo, k1, k2, c3, kOr, ne_eq, not_true_eq_false, not_false_eq_true, and_true, true_and, and_false, false_and, or_true, true_or, or_false, false_or, and_self, or_self, decide_eq_true_eq, ↓reduceIte])) (congrArg (fun z => some (Value.int z)) (by first | rfl | (simp only [ofNo, k1, k2, c3, ne_eq, not_true_eq_false, not_false_eq_true, and_true, true_and, and_false, false_and, or_true, true_or, or_false, false_or, and_self, or_self, decide_eq_true_eq, ↓reduceIte]; done) | (simp [ofNo, k1, k2, c3]; done) | (simp only [ofNo, k1, k2, c3, ne_eq, not_true_eq_false, not_false_eq_true, and_true, true_and, and_false, false_and, or_true, true_or, or_false, false_or, and_self, or_self, decide_eq_true_eq, ↓reduceIte])))
  by_cases c4 : w = 1
  · refine lv_tableIn (off := 48) (tgt := 60) hx hb dX7_ofNotice_12 (by rw [c4]; decide) (by rw [c4]; decide) (by rw [c4]; rfl) (by decide) ?_
    refine lv_aload_n hx hb dX7_ofNotice_60 rfl (lv_at hl 0 rfl) ?_
    refine rd_get (own := RX7) (x := .ref (A 5)) S hG.1 iX7 (rP_0 hR) 4 rfl (by decide) w0 rfl dX7_ofNotice_61 ?_
    refine rd_getN (own := RX7) (x := .ref (A 23)) S hG.1 iX3 (rP_5 hR) 1 rfl (by decide) nest_202 rfl dX7_ofNotice_64 ?_
    refine lv_iload_n hx hb dX7_ofNotice_67 rfl (lv_at hl 1 rfl) ?_
    refine rd_V (As := [.int i]) (rest := []) (v := some (.int (rowAt 16 (f 23) i))) S hG (c_X6_at l G H (A 23) (A 43) 16 (f 23) (by decide) (rP_23 hR) (rP_43 hR) i) gX7_ofNotice_X6_at rfl ⟨rfl, rfl⟩ nmX6_at ⟨Nat.le_of_ble_eq_true rfl, Nat.le_of_ble_eq_true rfl⟩ (rd_rcv hG.1 (rP_23 hR) rfl) rfl hl.1 rfl (Nat.le_of_ble_eq_true rfl) ⟨Nat.zero_le _, Nat.zero_le _⟩ dX7_ofNotice_68 ?_
    refine W.eq (g2 := F0 mZ 71 ls [.int (rowAt 16 (f 23) i)]) rfl ?_
    exact rx_iret S hr hlk dX7_ofNotice_71 (by first | rfl | (simp only [ofNo, k1, k2, kOr, ne_eq, not_true_eq_false, not_false_eq_true, and_true, true_and, and_false, false_and, or_true, true_or, or_false, false_or, and_self, or_self, decide_eq_true_eq, ↓reduceIte]; done) | (simp only [ofNo, k1, k2, c3, c4, kOr, ne_eq, not_true_eq_false, not_false_eq_true, and_true, true_and, and_false, false_and, or_true, true_or, or_false, false_or, and_self, or_self, decide_eq_true_eq, ↓reduceIte]; done) | (simp [ofNo, k1, k2, c3, c4, kOr]; done) | (simp only [ofNo, k1, k2, c3, c4, kOr, ne_eq, not_true_eq_false, not_false_eq_true, and_true, true_and, and_false, false_and, or_true, true_or, or_false, false_or, and_self, or_self, decide_eq_true_eq, ↓reduceIte])) (congrArg (fun z => some (Value.int z)) (by first | rfl | (simp only [ofNo, k1, k2, c3, c4, ne_eq, not_true_eq_false, not_false_eq_true, and_true, true_and, and_false, false_and, or_true, true_or, or_false, false_or, and_self, or_self, decide_eq_true_eq, ↓reduceIte]; done) | (simp [ofNo, k1, k2, c3, c4]; done) | (simp only [ofNo, k1, k2, c3, c4, ne_eq, not_true_eq_false, not_false_eq_true, and_true, true_and, and_false, false_and, or_true, true_or, or_false, false_or, and_self, or_self, decide_eq_true_eq, ↓reduceIte])))
  by_cases c5 : w = 2
  · refine lv_tableIn (off := 60) (tgt := 72) hx hb dX7_ofNotice_12 (by rw [c5]; decide) (by rw [c5]; decide) (by rw [c5]; rfl) (by decide) ?_
    refine lv_aload_n hx hb dX7_ofNotice_72 rfl (lv_at hl 0 rfl) ?_
    refine rd_get (own := RX7) (x := .ref (A 5)) S hG.1 iX7 (rP_0 hR) 4 rfl (by decide) w0 rfl dX7_ofNotice_73 ?_
    refine rd_getN (own := RX7) (x := .ref (A 24)) S hG.1 iX3 (rP_5 hR) 2 rfl (by decide) nest_205 rfl dX7_ofNotice_76 ?_
    refine lv_iload_n hx hb dX7_ofNotice_79 rfl (lv_at hl 1 rfl) ?_
    refine rd_V (As := [.int i]) (rest := []) (v := some (.int (rowAt 16 (f 24) i))) S hG (c_X6_at l G H (A 24) (A 44) 16 (f 24) (by decide) (rP_24 hR) (rP_44 hR) i) gX7_ofNotice_X6_at rfl ⟨rfl, rfl⟩ nmX6_at ⟨Nat.le_of_ble_eq_true rfl, Nat.le_of_ble_eq_true rfl⟩ (rd_rcv hG.1 (rP_24 hR) rfl) rfl hl.1 rfl (Nat.le_of_ble_eq_true rfl) ⟨Nat.zero_le _, Nat.zero_le _⟩ dX7_ofNotice_80 ?_
    refine W.eq (g2 := F0 mZ 83 ls [.int (rowAt 16 (f 24) i)]) rfl ?_
    exact rx_iret S hr hlk dX7_ofNotice_83 (by first | rfl | (simp only [ofNo, k1, k2, kOr, ne_eq, not_true_eq_false, not_false_eq_true, and_true, true_and, and_false, false_and, or_true, true_or, or_false, false_or, and_self, or_self, decide_eq_true_eq, ↓reduceIte]; done) | (simp only [ofNo, k1, k2, c3, c4, c5, kOr, ne_eq, not_true_eq_false, not_false_eq_true, and_true, true_and, and_false, false_and, or_true, true_or, or_false, false_or, and_self, or_self, decide_eq_true_eq, ↓reduceIte]; done) | (simp [ofNo, k1, k2, c3, c4, c5, kOr]; done) | (simp only [ofNo, k1, k2, c3, c4, c5, kOr, ne_eq, not_true_eq_false, not_false_eq_true, and_true, true_and, and_false, false_and, or_true, true_or, or_false, false_or, and_self, or_self, decide_eq_true_eq, ↓reduceIte])) (congrArg (fun z => some (Value.int z)) (by first | rfl | (simp only [ofNo, k1, k2, c3, c4, c5, ne_eq, not_true_eq_false, not_false_eq_true, and_true, true_and, and_false, false_and, or_true, true_or, or_false, false_or, and_self, or_self, decide_eq_true_eq, ↓reduceIte]; done) | (simp [ofNo, k1, k2, c3, c4, c5]; done) | (simp only [ofNo, k1, k2, c3, c4, c5, ne_eq, not_true_eq_false, not_false_eq_true, and_true, true_and, and_false, false_and, or_true, true_or, or_false, false_or, and_self, or_self, decide_eq_true_eq, ↓reduceIte])))
  by_cases c6 : w = 3
  · refine lv_tableIn (off := 72) (tgt := 84) hx hb dX7_ofNotice_12 (by rw [c6]; decide) (by rw [c6]; decide) (by rw [c6]; rfl) (by decide) ?_
    refine lv_aload_n hx hb dX7_ofNotice_84 rfl (lv_at hl 0 rfl) ?_
    refine rd_get (own := RX7) (x := .ref (A 5)) S hG.1 iX7 (rP_0 hR) 4 rfl (by decide) w0 rfl dX7_ofNotice_85 ?_
    refine rd_getN (own := RX7) (x := .ref (A 25)) S hG.1 iX3 (rP_5 hR) 3 rfl (by decide) nest_208 rfl dX7_ofNotice_88 ?_
    refine lv_iload_n hx hb dX7_ofNotice_91 rfl (lv_at hl 1 rfl) ?_
    refine rd_V (As := [.int i]) (rest := []) (v := some (.int (rowAt 16 (f 25) i))) S hG (c_X6_at l G H (A 25) (A 45) 16 (f 25) (by decide) (rP_25 hR) (rP_45 hR) i) gX7_ofNotice_X6_at rfl ⟨rfl, rfl⟩ nmX6_at ⟨Nat.le_of_ble_eq_true rfl, Nat.le_of_ble_eq_true rfl⟩ (rd_rcv hG.1 (rP_25 hR) rfl) rfl hl.1 rfl (Nat.le_of_ble_eq_true rfl) ⟨Nat.zero_le _, Nat.zero_le _⟩ dX7_ofNotice_92 ?_
    refine W.eq (g2 := F0 mZ 95 ls [.int (rowAt 16 (f 25) i)]) rfl ?_
    exact rx_iret S hr hlk dX7_ofNotice_95 (by first | rfl | (simp only [ofNo, k1, k2, kOr, ne_eq, not_true_eq_false, not_false_eq_true, and_true, true_and, and_false, false_and, or_true, true_or, or_false, false_or, and_self, or_self, decide_eq_true_eq, ↓reduceIte]; done) | (simp only [ofNo, k1, k2, c3, c4, c5, c6, kOr, ne_eq, not_true_eq_false, not_false_eq_true, and_true, true_and, and_false, false_and, or_true, true_or, or_false, false_or, and_self, or_self, decide_eq_true_eq, ↓reduceIte]; done) | (simp [ofNo, k1, k2, c3, c4, c5, c6, kOr]; done) | (simp only [ofNo, k1, k2, c3, c4, c5, c6, kOr, ne_eq, not_true_eq_false, not_false_eq_true, and_true, true_and, and_false, false_and, or_true, true_or, or_false, false_or, and_self, or_self, decide_eq_true_eq, ↓reduceIte])) (congrArg (fun z => some (Value.int z)) (by first | rfl | (simp only [ofNo, k1, k2, c3, c4, c5, c6, ne_eq, not_true_eq_false, not_false_eq_true, and_true, true_and, and_false, false_and, or_true, true_or, or_false, false_or, and_self, or_self, decide_eq_true_eq, ↓reduceIte]; done) | (simp [ofNo, k1, k2, c3, c4, c5, c6]; done) | (simp only [ofNo, k1, k2, c3, c4, c5, c6, ne_eq, not_true_eq_false, not_false_eq_true, and_true, true_and, and_false, false_and, or_true, true_or, or_false, false_or, and_self, or_self, decide_eq_true_eq, ↓reduceIte])))
  by_cases c7 : w = 4
  · refine lv_tableIn (off := 84) (tgt := 96) hx hb dX7_ofNotice_12 (by rw [c7]; decide) (by rw [c7]; decide) (by rw [c7]; rfl) (by decide) ?_
    refine lv_aload_n hx hb dX7_ofNotice_96 rfl (lv_at hl 0 rfl) ?_
    refine rd_get (own := RX7) (x := .ref (A 5)) S hG.1 iX7 (rP_0 hR) 4 rfl (by decide) w0 rfl dX7_ofNotice_97 ?_
    refine rd_getN (own := RX7) (x := .ref (A 26)) S hG.1 iX3 (rP_5 hR) 4 rfl (by decide) nest_209 rfl dX7_ofNotice_100 ?_
    refine lv_iload_n hx hb dX7_ofNotice_103 rfl (lv_at hl 1 rfl) ?_
    refine rd_V (As := [.int i]) (rest := []) (v := some (.int (rowAt 16 (f 26) i))) S hG (c_X6_at l G H (A 26) (A 46) 16 (f 26) (by decide) (rP_26 hR) (rP_46 hR) i) gX7_ofNotice_X6_at rfl ⟨rfl, rfl⟩ nmX6_at ⟨Nat.le_of_ble_eq_true rfl, Nat.le_of_ble_eq_true rfl⟩ (rd_rcv hG.1 (rP_26 hR) rfl) rfl hl.1 rfl (Nat.le_of_ble_eq_true rfl) ⟨Nat.zero_le _, Nat.zero_le _⟩ dX7_ofNotice_104 ?_
    refine W.eq (g2 := F0 mZ 107 ls [.int (rowAt 16 (f 26) i)]) rfl ?_
    exact rx_iret S hr hlk dX7_ofNotice_107 (by first | rfl | (simp only [ofNo, k1, k2, kOr, ne_eq, not_true_eq_false, not_false_eq_true, and_true, true_and, and_false, false_and, or_true, true_or, or_false, false_or, and_self, or_self, decide_eq_true_eq, ↓reduceIte]; done) | (simp only [ofNo, k1, k2, c3, c4, c5, c6, c7, kOr, ne_eq, not_true_eq_false, not_false_eq_true, and_true, true_and, and_false, false_and, or_true, true_or, or_false, false_or, and_self, or_self, decide_eq_true_eq, ↓reduceIte]; done) | (simp [ofNo, k1, k2, c3, c4, c5, c6, c7, kOr]; done) | (simp only [ofNo, k1, k2, c3, c4, c5, c6, c7, kOr, ne_eq, not_true_eq_false, not_false_eq_true, and_true, true_and, and_false, false_and, or_true, true_or, or_false, false_or, and_self, or_self, decide_eq_true_eq, ↓reduceIte])) (congrArg (fun z => some (Value.int z)) (by first | rfl | (simp only [ofNo, k1, k2, c3, c4, c5, c6, c7, ne_eq, not_true_eq_false, not_false_eq_true, and_true, true_and, and_false, false_and, or_true, true_or, or_false, false_or, and_self, or_self, decide_eq_true_eq, ↓reduceIte]; done) | (simp [ofNo, k1, k2, c3, c4, c5, c6, c7]; done) | (simp only [ofNo, k1, k2, c3, c4, c5, c6, c7, ne_eq, not_true_eq_false, not_false_eq_true, and_true, true_and, and_false, false_and, or_true, true_or, or_false, false_or, and_self, or_self, decide_eq_true_eq, ↓reduceIte])))
  refine lv_tableOut (tgt := 108) hx hb dX7_ofNotice_12 (by have a0 := lv_neT c3 (a := 0) (by decide); have a1 := lv_neT c4 (a := 1) (by decide); have a2 := lv_neT c5 (a := 2) (by decide); have a3 := lv_neT c6 (a := 3) (by decide); have a4 := lv_neT c7 (a := 4) (by decide); omega) (by decide) ?_
  refine lv_aload_n hx hb dX7_ofNotice_108 rfl (lv_at hl 0 rfl) ?_
  refine rd_get (own := RX7) (x := .ref (A 5)) S hG.1 iX7 (rP_0 hR) 4 rfl (by decide) w0 rfl dX7_ofNotice_109 ?_
  refine rd_getN (own := RX7) (x := .ref (A 22)) S hG.1 iX3 (rP_5 hR) 0 rfl (by decide) nest_162 rfl dX7_ofNotice_112 ?_
  refine lv_iload_n hx hb dX7_ofNotice_115 rfl (lv_at hl 1 rfl) ?_
  refine rd_V (As := [.int i]) (rest := []) (v := some (.int (rowAt 16 (f 22) i))) S hG (c_X6_at l G H (A 22) (A 42) 16 (f 22) (by decide) (rP_22 hR) (rP_42 hR) i) gX7_ofNotice_X6_at rfl ⟨rfl, rfl⟩ nmX6_at ⟨Nat.le_of_ble_eq_true rfl, Nat.le_of_ble_eq_true rfl⟩ (rd_rcv hG.1 (rP_22 hR) rfl) rfl hl.1 rfl (Nat.le_of_ble_eq_true rfl) ⟨Nat.zero_le _, Nat.zero_le _⟩ dX7_ofNotice_116 ?_
  refine W.eq (g2 := F0 mZ 119 ls [.int (rowAt 16 (f 22) i)]) rfl ?_
  refine lv_iconst (v := 3) hx hb dX7_ofNotice_119 (by decide) ?_
  refine lv_icmp_eq (tgt := 145) hx hb dX7_ofNotice_120 (by decide) (fun c8 => ?_) (fun c8 => ?_)
  · refine lv_iconst (v := 1) hx hb dX7_ofNotice_145 (by decide) ?_
    refine lv_goto (tgt := 150) hx hb dX7_ofNotice_146 (by decide) ?_
    exact rx_iret S hr hlk dX7_ofNotice_150 (by first | rfl | (simp only [ofNo, k1, k2, kOr, ne_eq, not_true_eq_false, not_false_eq_true, and_true, true_and, and_false, false_and, or_true, true_or, or_false, false_or, and_self, or_self, decide_eq_true_eq, ↓reduceIte]; done) | (simp only [ofNo, k1, k2, c3, c4, c5, c6, c7, c8, kOr, ne_eq, not_true_eq_false, not_false_eq_true, and_true, true_and, and_false, false_and, or_true, true_or, or_false, false_or, and_self, or_self, decide_eq_true_eq, ↓reduceIte]; done) | (simp [ofNo, k1, k2, c3, c4, c5, c6, c7, c8, kOr]; done) | (simp only [ofNo, k1, k2, c3, c4, c5, c6, c7, c8, kOr, ne_eq, not_true_eq_false, not_false_eq_true, and_true, true_and, and_false, false_and, or_true, true_or, or_false, false_or, and_self, or_self, decide_eq_true_eq, ↓reduceIte])) (congrArg (fun z => some (Value.int z)) (by first | rfl | (simp only [ofNo, k1, k2, c3, c4, c5, c6, c7, c8, ne_eq, not_true_eq_false, not_false_eq_true, and_true, true_and, and_false, false_and, or_true, true_or, or_false, false_or, and_self, or_self, decide_eq_true_eq, ↓reduceIte]; done) | (simp [ofNo, k1, k2, c3, c4, c5, c6, c7, c8]; done) | (simp only [ofNo, k1, k2, c3, c4, c5, c6, c7, c8, ne_eq, not_true_eq_false, not_false_eq_true, and_true, true_and, and_false, false_and, or_true, true_or, or_false, false_or, and_self, or_self, decide_eq_true_eq, ↓reduceIte])))
  · refine lv_aload_n hx hb dX7_ofNotice_123 rfl (lv_at hl 0 rfl) ?_
    refine rd_get (own := RX7) (x := .ref (A 5)) S hG.1 iX7 (rP_0 hR) 4 rfl (by decide) w0 rfl dX7_ofNotice_124 ?_
    refine lv_iload_n hx hb dX7_ofNotice_127 rfl (lv_at hl 1 rfl) ?_
    refine lv_aload_n hx hb dX7_ofNotice_128 rfl (lv_at hl 0 rfl) ?_
    refine rd_get (own := RX7) (x := .int (nI (g 0))) S hG.1 iX7 (rP_0 hR) 6 rfl (by decide) w1 rfl dX7_ofNotice_129 ?_
    refine lv_aload_n hx hb dX7_ofNotice_132 rfl (lv_at hl 0 rfl) ?_
    refine rd_get (own := RX7) (x := .ref (A 5)) S hG.1 iX7 (rP_0 hR) 4 rfl (by decide) w0 rfl dX7_ofNotice_133 ?_
    refine rd_getN (own := RX7) (x := .int (nI (g 5))) S hG.1 iX3 (rP_5 hR) 6 rfl (by decide) nest_177 rfl dX7_ofNotice_136 ?_
    refine rd_V (As := [.int i, .int (nI (g 0)), .int (nI (g 5))]) (rest := []) (v := some (.int (b2i (isAc f i (nI (g 0)) (nI (g 5)) = true)))) S hG (c_X3_isActive l G A f g H hR i (nI (g 0)) (nI (g 5))) gX7_ofNotice_X3_isActive rfl ⟨rfl, rfl⟩ nmX3_isActive ⟨Nat.le_of_ble_eq_true rfl, Nat.le_of_ble_eq_true rfl⟩ (rd_rcv hG.1 (rP_5 hR) rfl) rfl hl.1 rfl (Nat.le_of_ble_eq_true rfl) ⟨Nat.zero_le _, Nat.zero_le _⟩ dX7_ofNotice_139 ?_
    refine W.eq (g2 := F0 mZ 142 ls [.int (b2i (isAc f i (nI (g 0)) (nI (g 5)) = true))]) rfl ?_
    refine lv_if_eq (tgt := 149) hx hb dX7_ofNotice_142 (by decide) (fun c9 => ?_) (fun c9 => ?_)
    · have c9 := b2i_z.mp c9
      refine lv_iconst (v := 0) hx hb dX7_ofNotice_149 (by decide) ?_
      exact rx_iret S hr hlk dX7_ofNotice_150 (by first | rfl | (simp only [ofNo, k1, k2, kOr, ne_eq, not_true_eq_false, not_false_eq_true, and_true, true_and, and_false, false_and, or_true, true_or, or_false, false_or, and_self, or_self, decide_eq_true_eq, ↓reduceIte]; done) | (simp only [ofNo, k1, k2, c3, c4, c5, c6, c7, c8, c9, kOr, ne_eq, not_true_eq_false, not_false_eq_true, and_true, true_and, and_false, false_and, or_true, true_or, or_false, false_or, and_self, or_self, decide_eq_true_eq, ↓reduceIte]; done) | (simp [ofNo, k1, k2, c3, c4, c5, c6, c7, c8, c9, kOr]; done) | (simp only [ofNo, k1, k2, c3, c4, c5, c6, c7, c8, c9, kOr, ne_eq, not_true_eq_false, not_false_eq_true, and_true, true_and, and_false, false_and, or_true, true_or, or_false, false_or, and_self, or_self, decide_eq_true_eq, ↓reduceIte])) (congrArg (fun z => some (Value.int z)) (by first | rfl | (simp only [ofNo, k1, k2, c3, c4, c5, c6, c7, c8, c9, ne_eq, not_true_eq_false, not_false_eq_true, and_true, true_and, and_false, false_and, or_true, true_or, or_false, false_or, and_self, or_self, decide_eq_true_eq, ↓reduceIte]; done) | (simp [ofNo, k1, k2, c3, c4, c5, c6, c7, c8, c9]; done) | (simp only [ofNo, k1, k2, c3, c4, c5, c6, c7, c8, c9, ne_eq, not_true_eq_false, not_false_eq_true, and_true, true_and, and_false, false_and, or_true, true_or, or_false, false_or, and_self, or_self, decide_eq_true_eq, ↓reduceIte])))
    · have c9 := b2i_nz.mp c9
      refine lv_iconst (v := 1) hx hb dX7_ofNotice_145 (by decide) ?_
      refine lv_goto (tgt := 150) hx hb dX7_ofNotice_146 (by decide) ?_
      exact rx_iret S hr hlk dX7_ofNotice_150 (by first | rfl | (simp only [ofNo, k1, k2, kOr, ne_eq, not_true_eq_false, not_false_eq_true, and_true, true_and, and_false, false_and, or_true, true_or, or_false, false_or, and_self, or_self, decide_eq_true_eq, ↓reduceIte]; done) | (simp only [ofNo, k1, k2, c3, c4, c5, c6, c7, c8, c9, kOr, ne_eq, not_true_eq_false, not_false_eq_true, and_true, true_and, and_false, false_and, or_true, true_or, or_false, false_or, and_self, or_self, decide_eq_true_eq, ↓reduceIte]; done) | (simp [ofNo, k1, k2, c3, c4, c5, c6, c7, c8, c9, kOr]; done) | (simp only [ofNo, k1, k2, c3, c4, c5, c6, c7, c8, c9, kOr, ne_eq, not_true_eq_false, not_false_eq_true, and_true, true_and, and_false, false_and, or_true, true_or, or_false, false_or, and_self, or_self, decide_eq_true_eq, ↓reduceIte])) (congrArg (fun z => some (Value.int z)) (by first | rfl | (simp only [ofNo, k1, k2, c3, c4, c5, c6, c7, c8, c9, ne_eq, not_true_eq_false, not_false_eq_true, and_true, true_and, and_false, false_and, or_true, true_or, or_false, false_or, and_self, or_self, decide_eq_true_eq, ↓reduceIte]; done) | (simp [ofNo, k1, k2, c3, c4, c5, c6, c7, c8, c9]; done) | (simp only [ofNo, k1, k2, c3, c4, c5, c6, c7, c8, c9, ne_eq, not_true_eq_false, not_false_eq_true, and_true, true_and, and_false, false_and, or_true, true_or, or_false, false_or, and_self, or_self, decide_eq_true_eq, ↓reduceIte])))
theorem nmX7_believes : nmV yX7_believes RX7 4 := by decide +kernel
set_option maxHeartbeats 4000000 in
set_option maxRecDepth 100000 in
theorem c_X7_believes (l : Launch) (G : GT) (hlf : l.stackTraces = false) (A : Nat → Nat) (f : Nat → Nat → Int32) (g : Nat → Nat) (H : Heap) (hR : RP G A f g H) (cr i d ca : Int32) : RxV l G H yX7_believes wsX7_believes { frames := 8, cells := 1, slots := 6, locals := 124 } [.ref (A 0), .int cr, .int i, .int d, .int ca] (kOr (koIx cr 4) (kOr (koIx i (g 3)) (kOr (koArg d (nI (g 0)) 399) (koArg ca 0 3)))) (some (.int (fCat (hBl f g cr i d) ca))) := by
  refine rx_of (cc := cX7_believes) (maxL := 5) (ret := (some .int)) (by decide) rfl (Nat.le_of_ble_eq_true rfl) ?_
  intro pZ eZ sZ mZ bZ meZ cZ ls S hr hlk hxt hl hHs hG
  have S : CallFix pZ mZ cZ cX7_believes 5 sZ _ wsX7_believes RX7 := S
  have hx := S.1
  have hb := S.2.1
  have hown := S.2.2.2.1
  have hts := S.2.2.2.2
  have hl : lv_has ls 5 [(0, .ref (A 0)), (1, .int cr), (2, .int i), (3, .int d), (4, .int ca)] := hl
  have w0 := hts (.fieldLink RX7 51 "MinimaRoom" "now" "I") (by decide +kernel)
  have iX7 : ∀ w ∈ u_ws RX7 TX7 8, w ∈ wsX7_believes := by decide +kernel
  have hgb := hR.1
  refine lv_iload_n hx hb dX7_believes_0 rfl (lv_at hl 1 rfl) ?_
  refine rx_S (As := [.int cr]) (rest := []) (v := none) S hG (c_X7_requireCrew l G hlf H cr) gX7_believes_X7_requireCrew rfl ⟨rfl, rfl⟩ nmX7_requireCrew ⟨Nat.le_of_ble_eq_true rfl, Nat.le_of_ble_eq_true rfl⟩ rfl hl.1 rfl (Nat.le_of_ble_eq_true rfl) ⟨Nat.le_of_ble_eq_true rfl, Nat.le_of_ble_eq_true rfl⟩ dX7_believes_1 hxt hlk ⟨Nat.le_of_ble_eq_true rfl, Nat.le_of_ble_eq_true rfl⟩ (fun E t hE hext => ⟨by first | rfl | (simp only [hE, kOr, ne_eq, not_true_eq_false, not_false_eq_true, and_true, true_and, and_false, false_and, or_true, true_or, or_false, false_or, and_self, or_self, decide_eq_true_eq, ↓reduceIte]; done) | (simp only [hE, kOr, ne_eq, not_true_eq_false, not_false_eq_true, and_true, true_and, and_false, false_and, or_true, true_or, or_false, false_or, and_self, or_self, decide_eq_true_eq, ↓reduceIte]; done) | (simp [hE, kOr]; done) | (simp only [hE, kOr, ne_eq, not_true_eq_false, not_false_eq_true, and_true, true_and, and_false, false_and, or_true, true_or, or_false, false_or, and_self, or_self, decide_eq_true_eq, ↓reduceIte]), hext⟩) (fun k1 => ?_)
  refine W.eq (g2 := F0 mZ 4 ls []) rfl ?_
  refine lv_aload_n hx hb dX7_believes_4 rfl (lv_at hl 0 rfl) ?_
  refine lv_iload_n hx hb dX7_believes_5 rfl (lv_at hl 2 rfl) ?_
  refine rx_V (As := [.int i]) (rest := []) (v := none) S hG (c_X7_requireProcedure l G hlf A f g H hR i) gX7_believes_X7_requireProcedure rfl ⟨rfl, rfl⟩ nmX7_requireProcedure ⟨Nat.le_of_ble_eq_true rfl, Nat.le_of_ble_eq_true rfl⟩ (rd_rcv hG.1 (rP_0 hR) rfl) rfl hl.1 rfl (Nat.le_of_ble_eq_true rfl) ⟨Nat.le_of_ble_eq_true rfl, Nat.le_of_ble_eq_true rfl⟩ dX7_believes_6 hxt hlk ⟨Nat.le_of_ble_eq_true rfl, Nat.le_of_ble_eq_true rfl⟩ (fun E t hE hext => ⟨by first | rfl | (simp only [k1, hE, kOr, ne_eq, not_true_eq_false, not_false_eq_true, and_true, true_and, and_false, false_and, or_true, true_or, or_false, false_or, and_self, or_self, decide_eq_true_eq, ↓reduceIte]; done) | (simp only [k1, hE, kOr, ne_eq, not_true_eq_false, not_false_eq_true, and_true, true_and, and_false, false_and, or_true, true_or, or_false, false_or, and_self, or_self, decide_eq_true_eq, ↓reduceIte]; done) | (simp [k1, hE, kOr]; done) | (simp only [k1, hE, kOr, ne_eq, not_true_eq_false, not_false_eq_true, and_true, true_and, and_false, false_and, or_true, true_or, or_false, false_or, and_self, or_self, decide_eq_true_eq, ↓reduceIte]), hext⟩) (fun k2 => ?_)
  refine W.eq (g2 := F0 mZ 9 ls []) rfl ?_
  refine lv_iload_n hx hb dX7_believes_9 rfl (lv_at hl 3 rfl) ?_
  refine lv_aload_n hx hb dX7_believes_10 rfl (lv_at hl 0 rfl) ?_
  refine rd_get (own := RX7) (x := .int (nI (g 0))) S hG.1 iX7 (rP_0 hR) 6 rfl (by decide) w0 rfl dX7_believes_11 ?_
  refine lv_sipush (v := 399) hx hb dX7_believes_14 (by decide) ?_
  refine rx_S (As := [.int d, .int (nI (g 0)), .int 399]) (rest := []) (v := none) S hG (c_X7_requireArgument l G hlf H d (nI (g 0)) 399) gX7_believes_X7_requireArgument rfl ⟨rfl, rfl⟩ nmX7_requireArgument ⟨Nat.le_of_ble_eq_true rfl, Nat.le_of_ble_eq_true rfl⟩ rfl hl.1 rfl (Nat.le_of_ble_eq_true rfl) ⟨Nat.le_of_ble_eq_true rfl, Nat.le_of_ble_eq_true rfl⟩ dX7_believes_17 hxt hlk ⟨Nat.le_of_ble_eq_true rfl, Nat.le_of_ble_eq_true rfl⟩ (fun E t hE hext => ⟨by first | rfl | (simp only [k1, k2, hE, kOr, ne_eq, not_true_eq_false, not_false_eq_true, and_true, true_and, and_false, false_and, or_true, true_or, or_false, false_or, and_self, or_self, decide_eq_true_eq, ↓reduceIte]; done) | (simp only [k1, k2, hE, kOr, ne_eq, not_true_eq_false, not_false_eq_true, and_true, true_and, and_false, false_and, or_true, true_or, or_false, false_or, and_self, or_self, decide_eq_true_eq, ↓reduceIte]; done) | (simp [k1, k2, hE, kOr]; done) | (simp only [k1, k2, hE, kOr, ne_eq, not_true_eq_false, not_false_eq_true, and_true, true_and, and_false, false_and, or_true, true_or, or_false, false_or, and_self, or_self, decide_eq_true_eq, ↓reduceIte]), hext⟩) (fun k3 => ?_)
  refine W.eq (g2 := F0 mZ 20 ls []) rfl ?_
  refine lv_iload hx hb dX7_believes_20 (lv_at hl 4 rfl) ?_
  refine rx_S (As := [.int ca]) (rest := []) (v := none) S hG (c_X7_requireCategory l G hlf H ca) gX7_believes_X7_requireCategory rfl ⟨rfl, rfl⟩ nmX7_requireCategory ⟨Nat.le_of_ble_eq_true rfl, Nat.le_of_ble_eq_true rfl⟩ rfl hl.1 rfl (Nat.le_of_ble_eq_true rfl) ⟨Nat.le_of_ble_eq_true rfl, Nat.le_of_ble_eq_true rfl⟩ dX7_believes_22 hxt hlk ⟨Nat.le_of_ble_eq_true rfl, Nat.le_of_ble_eq_true rfl⟩ (fun E t hE hext => ⟨by first | rfl | (simp only [k1, k2, k3, hE, kOr, ne_eq, not_true_eq_false, not_false_eq_true, and_true, true_and, and_false, false_and, or_true, true_or, or_false, false_or, and_self, or_self, decide_eq_true_eq, ↓reduceIte]; done) | (simp only [k1, k2, k3, hE, kOr, ne_eq, not_true_eq_false, not_false_eq_true, and_true, true_and, and_false, false_and, or_true, true_or, or_false, false_or, and_self, or_self, decide_eq_true_eq, ↓reduceIte]; done) | (simp [k1, k2, k3, hE, kOr]; done) | (simp only [k1, k2, k3, hE, kOr, ne_eq, not_true_eq_false, not_false_eq_true, and_true, true_and, and_false, false_and, or_true, true_or, or_false, false_or, and_self, or_self, decide_eq_true_eq, ↓reduceIte]), hext⟩) (fun k4 => ?_)
  refine W.eq (g2 := F0 mZ 25 ls []) rfl ?_
  refine lv_aload_n hx hb dX7_believes_25 rfl (lv_at hl 0 rfl) ?_
  refine lv_iload_n hx hb dX7_believes_26 rfl (lv_at hl 1 rfl) ?_
  refine lv_iload_n hx hb dX7_believes_27 rfl (lv_at hl 2 rfl) ?_
  refine lv_iload_n hx hb dX7_believes_28 rfl (lv_at hl 3 rfl) ?_
  refine rd_V (As := [.int cr, .int i, .int d]) (rest := []) (v := some (.int (hBl f g cr i d))) S hG (c_X7_heightBelieved l G A f g H hR cr i d) gX7_believes_X7_heightBelieved rfl ⟨rfl, rfl⟩ nmX7_heightBelieved ⟨Nat.le_of_ble_eq_true rfl, Nat.le_of_ble_eq_true rfl⟩ (rd_rcv hG.1 (rP_0 hR) rfl) rfl hl.1 rfl (Nat.le_of_ble_eq_true rfl) ⟨Nat.zero_le _, Nat.zero_le _⟩ dX7_believes_29 ?_
  refine W.eq (g2 := F0 mZ 32 ls [.int (hBl f g cr i d)]) rfl ?_
  refine lv_iload hx hb dX7_believes_32 (lv_at hl 4 rfl) ?_
  refine rd_S (As := [.int (hBl f g cr i d), .int ca]) (rest := []) (v := some (.int (fCat (hBl f g cr i d) ca))) S hG (c_X7_forCategory l G H (hBl f g cr i d) ca) gX7_believes_X7_forCategory rfl ⟨rfl, rfl⟩ nmX7_forCategory ⟨Nat.le_of_ble_eq_true rfl, Nat.le_of_ble_eq_true rfl⟩ rfl hl.1 rfl (Nat.le_of_ble_eq_true rfl) ⟨Nat.zero_le _, Nat.zero_le _⟩ dX7_believes_34 ?_
  refine W.eq (g2 := F0 mZ 37 ls [.int (fCat (hBl f g cr i d) ca)]) rfl ?_
  exact rx_iret S hr hlk dX7_believes_37 (by first | rfl | (simp only [k1, k2, k3, k4, kOr, ne_eq, not_true_eq_false, not_false_eq_true, and_true, true_and, and_false, false_and, or_true, true_or, or_false, false_or, and_self, or_self, decide_eq_true_eq, ↓reduceIte]; done) | (simp only [k1, k2, k3, k4, kOr, ne_eq, not_true_eq_false, not_false_eq_true, and_true, true_and, and_false, false_and, or_true, true_or, or_false, false_or, and_self, or_self, decide_eq_true_eq, ↓reduceIte]; done) | (simp [k1, k2, k3, k4, kOr]; done) | (simp only [k1, k2, k3, k4, kOr, ne_eq, not_true_eq_false, not_false_eq_true, and_true, true_and, and_false, false_and, or_true, true_or, or_false, false_or, and_self, or_self, decide_eq_true_eq, ↓reduceIte])) (congrArg (fun z => some (Value.int z)) (by first | rfl | (simp only [k1, k2, k3, k4, ne_eq, not_true_eq_false, not_false_eq_true, and_true, true_and, and_false, false_and, or_true, true_or, or_false, false_or, and_self, or_self, decide_eq_true_eq, ↓reduceIte]; done) | (simp [k1, k2, k3, k4]; done) | (simp only [k1, k2, k3, k4, ne_eq, not_true_eq_false, not_false_eq_true, and_true, true_and, and_false, false_and, or_true, true_or, or_false, false_or, and_self, or_self, decide_eq_true_eq, ↓reduceIte])))
theorem nmX7_misled : nmV yX7_misled RX7 1 := by decide +kernel
set_option maxHeartbeats 4000000 in
set_option maxRecDepth 100000 in
theorem c_X7_misled (l : Launch) (G : GT) (hlf : l.stackTraces = false) (A : Nat → Nat) (f : Nat → Nat → Int32) (g : Nat → Nat) (H : Heap) (hR : RP G A f g H) (cr : Int32) : RxV l G H yX7_misled wsX7_misled { frames := 7, cells := 1, slots := 6, locals := 102 } [.ref (A 0), .int cr] (koIx cr 4) (some (.int (mis f g cr))) := by
  refine rx_of (cc := cX7_misled) (maxL := 6) (ret := (some .int)) (by decide) rfl (Nat.le_of_ble_eq_true rfl) ?_
  intro pZ eZ sZ mZ bZ meZ cZ ls S hr hlk hxt hl hHs hG
  have S : CallFix pZ mZ cZ cX7_misled 6 sZ _ wsX7_misled RX7 := S
  have hx := S.1
  have hb := S.2.1
  have hown := S.2.2.2.1
  have hts := S.2.2.2.2
  have hl : lv_has ls 6 [(0, .ref (A 0)), (1, .int cr)] := hl
  have w0 := hts (.fieldLink RX7 26 "MinimaRoom" "procedures" "LMinimaRoom$Procedures;") (by decide +kernel)
  have w1 := hts (.fieldLink RX7 51 "MinimaRoom" "now" "I") (by decide +kernel)
  have iX7 : ∀ w ∈ u_ws RX7 TX7 8, w ∈ wsX7_misled := by decide +kernel
  have iX5 : ∀ w ∈ u_ws RX5 TX5 3, w ∈ wsX7_misled := by decide +kernel
  have hgb := hR.1
  have hg3 := hgb 3
  refine lv_iload_n hx hb dX7_misled_0 rfl (lv_at hl 1 rfl) ?_
  refine rx_S (As := [.int cr]) (rest := []) (v := none) S hG (c_X7_requireCrew l G hlf H cr) gX7_misled_X7_requireCrew rfl ⟨rfl, rfl⟩ nmX7_requireCrew ⟨Nat.le_of_ble_eq_true rfl, Nat.le_of_ble_eq_true rfl⟩ rfl hl.1 rfl (Nat.le_of_ble_eq_true rfl) ⟨Nat.le_of_ble_eq_true rfl, Nat.le_of_ble_eq_true rfl⟩ dX7_misled_1 hxt hlk ⟨Nat.le_of_ble_eq_true rfl, Nat.le_of_ble_eq_true rfl⟩ (fun E t hE hext => ⟨by first | rfl | (simp only [mis, hE, kOr, ne_eq, not_true_eq_false, not_false_eq_true, and_true, true_and, and_false, false_and, or_true, true_or, or_false, false_or, and_self, or_self, decide_eq_true_eq, ↓reduceIte]; done) | (simp only [mis, hE, kOr, ne_eq, not_true_eq_false, not_false_eq_true, and_true, true_and, and_false, false_and, or_true, true_or, or_false, false_or, and_self, or_self, decide_eq_true_eq, ↓reduceIte]; done) | (simp [mis, hE, kOr]; done) | (simp only [mis, hE, kOr, ne_eq, not_true_eq_false, not_false_eq_true, and_true, true_and, and_false, false_and, or_true, true_or, or_false, false_or, and_self, or_self, decide_eq_true_eq, ↓reduceIte]), hext⟩) (fun k1 => ?_)
  refine W.eq (g2 := F0 mZ 4 ls []) rfl ?_
  refine lv_iconst (v := 0) hx hb dX7_misled_4 (by decide) ?_
  refine lv_istore_n (lv' := [(2, .int 0), (0, .ref (A 0)), (1, .int cr)]) hx hb dX7_misled_5 rfl hl (by decide) rfl (fun ls hl => ?_)
  refine lv_iconst (v := 0) hx hb dX7_misled_6 (by decide) ?_
  refine lv_istore_n (lv' := [(3, .int 0), (2, .int 0), (0, .ref (A 0)), (1, .int cr)]) hx hb dX7_misled_7 rfl hl (by decide) rfl (fun ls hl => ?_)
  have loop8 : ∀ (n8 k8 : Nat), k8 + n8 = g 3 → ∀ (z8_2 : Int32), z8_2 = fl k8 (fun j s => if ¬ hBl f g cr (nI j) (nI (g 0)) = -1 ∧ (hIF f g (nI j) (nI (g 0)) = -1 ∨ hBl f g cr (nI j) (nI (g 0)) < hIF f g (nI j) (nI (g 0))) then s ||| (1 <<< (nI j &&& 31)) else s) 0 → ∀ (ls : Array Slot), lv_has ls 6 [(3, .int (nI k8)), (2, .int z8_2), (0, .ref (A 0)), (1, .int cr)] → W pZ l eZ ({ frames := 7, cells := 1, slots := 6, locals := 102 } : Room) sZ mZ ([.ref (A 0), .int cr] : List Value).toArray bZ meZ cZ H [] 0 0 (rx_Q bZ H [.ref (A 0), .int cr] sZ (koIx cr 4) (some (.int (mis f g cr)))) (F0 mZ 8 ls []) := by
    intro n8
    induction n8 with
    | zero =>
      intro k8 hk8 z8_2 ez8_2 ls hl
      obtain rfl : k8 = g 3 := by omega
      refine lv_iload_n hx hb dX7_misled_8 rfl (lv_at hl 0 rfl) ?_
      refine lv_aload_n hx hb dX7_misled_9 rfl (lv_at hl 2 rfl) ?_
      refine rd_get (own := RX7) (x := .ref (A 3)) S hG.1 iX7 (rP_0 hR) 2 rfl (by decide) w0 rfl dX7_misled_10 ?_
      refine rd_getN (own := RX7) (x := .int (nI (g 3))) S hG.1 iX5 (rP_3 hR) 2 rfl (by decide) nest_124 rfl dX7_misled_13 ?_
      refine lv_icmp_ge (tgt := 73) hx hb dX7_misled_16 (by decide) (fun c2 => ?_) (fun c2 => ?_)
      · have d2 := Int32.not_lt.mpr c2
        refine lv_iload_n hx hb dX7_misled_73 rfl (lv_at hl 1 rfl) ?_
        exact rx_iret S hr hlk dX7_misled_74 (by subst ez8_2; first | rfl | (simp only [mis, k1, kOr, ne_eq, not_true_eq_false, not_false_eq_true, and_true, true_and, and_false, false_and, or_true, true_or, or_false, false_or, and_self, or_self, decide_eq_true_eq, ↓reduceIte]; done) | (simp only [mis, k1, c2, d2, kOr, ne_eq, not_true_eq_false, not_false_eq_true, and_true, true_and, and_false, false_and, or_true, true_or, or_false, false_or, and_self, or_self, decide_eq_true_eq, ↓reduceIte]; done) | (simp [mis, k1, c2, d2, kOr]; done) | (simp only [mis, k1, c2, d2, kOr, ne_eq, not_true_eq_false, not_false_eq_true, and_true, true_and, and_false, false_and, or_true, true_or, or_false, false_or, and_self, or_self, decide_eq_true_eq, ↓reduceIte])) (congrArg (fun z => some (Value.int z)) (by subst ez8_2; first | rfl | (simp only [mis, k1, c2, d2, ne_eq, not_true_eq_false, not_false_eq_true, and_true, true_and, and_false, false_and, or_true, true_or, or_false, false_or, and_self, or_self, decide_eq_true_eq, ↓reduceIte]; done) | (simp [mis, k1, c2, d2]; done) | (simp only [mis, k1, c2, d2, ne_eq, not_true_eq_false, not_false_eq_true, and_true, true_and, and_false, false_and, or_true, true_or, or_false, false_or, and_self, or_self, decide_eq_true_eq, ↓reduceIte])))
      · exact absurd c2 (by first | exact fun h => absurd (Int32.le_refl _) h | exact nI_nlt (by omega) (by omega) | exact nI_ge (by omega) (by omega) | exact fun h => h (nI_lt (by omega) (by omega)) | exact fun h => h (nI_le (by omega) (by omega)) | exact fun h => h (lp_le_cnt _) | exact lp_nle (by omega))
    | succ n8 ih8 =>
      intro k8 hk8 z8_2 ez8_2 ls hl
      refine lv_iload_n hx hb dX7_misled_8 rfl (lv_at hl 0 rfl) ?_
      refine lv_aload_n hx hb dX7_misled_9 rfl (lv_at hl 2 rfl) ?_
      refine rd_get (own := RX7) (x := .ref (A 3)) S hG.1 iX7 (rP_0 hR) 2 rfl (by decide) w0 rfl dX7_misled_10 ?_
      refine rd_getN (own := RX7) (x := .int (nI (g 3))) S hG.1 iX5 (rP_3 hR) 2 rfl (by decide) nest_124 rfl dX7_misled_13 ?_
      refine lv_icmp_ge (tgt := 73) hx hb dX7_misled_16 (by decide) (fun c3 => ?_) (fun c3 => ?_)
      · exact absurd c3 (by first | exact fun h => absurd (Int32.le_refl _) h | exact nI_nlt (by omega) (by omega) | exact nI_ge (by omega) (by omega) | exact fun h => h (nI_lt (by omega) (by omega)) | exact fun h => h (nI_le (by omega) (by omega)) | exact fun h => h (lp_le_cnt _) | exact lp_nle (by omega))
      · have d3 := Int32.not_le.mp c3
        refine lv_aload_n hx hb dX7_misled_19 rfl (lv_at hl 2 rfl) ?_
        refine lv_iload_n hx hb dX7_misled_20 rfl (lv_at hl 3 rfl) ?_
        refine lv_iload_n hx hb dX7_misled_21 rfl (lv_at hl 0 rfl) ?_
        refine lv_aload_n hx hb dX7_misled_22 rfl (lv_at hl 2 rfl) ?_
        refine rd_get (own := RX7) (x := .int (nI (g 0))) S hG.1 iX7 (rP_0 hR) 6 rfl (by decide) w1 rfl dX7_misled_23 ?_
        refine rd_V (As := [.int cr, .int (nI k8), .int (nI (g 0))]) (rest := []) (v := some (.int (hBl f g cr (nI k8) (nI (g 0))))) S hG (c_X7_heightBelieved l G A f g H hR cr (nI k8) (nI (g 0))) gX7_misled_X7_heightBelieved rfl ⟨rfl, rfl⟩ nmX7_heightBelieved ⟨Nat.le_of_ble_eq_true rfl, Nat.le_of_ble_eq_true rfl⟩ (rd_rcv hG.1 (rP_0 hR) rfl) rfl hl.1 rfl (Nat.le_of_ble_eq_true rfl) ⟨Nat.zero_le _, Nat.zero_le _⟩ dX7_misled_26 ?_
        refine W.eq (g2 := F0 mZ 29 ls [.int (hBl f g cr (nI k8) (nI (g 0)))]) rfl ?_
        refine lv_topi (fun x4 ex4 => ?_)
        refine lv_istore (lv' := [(4, .int x4), (3, .int (nI k8)), (2, .int z8_2), (0, .ref (A 0)), (1, .int cr)]) hx hb dX7_misled_29 hl (by decide) rfl (fun ls hl => ?_)
        refine lv_aload_n hx hb dX7_misled_31 rfl (lv_at hl 3 rfl) ?_
        refine lv_iload_n hx hb dX7_misled_32 rfl (lv_at hl 1 rfl) ?_
        refine lv_aload_n hx hb dX7_misled_33 rfl (lv_at hl 3 rfl) ?_
        refine rd_get (own := RX7) (x := .int (nI (g 0))) S hG.1 iX7 (rP_0 hR) 6 rfl (by decide) w1 rfl dX7_misled_34 ?_
        refine rd_V (As := [.int (nI k8), .int (nI (g 0))]) (rest := []) (v := some (.int (hIF f g (nI k8) (nI (g 0))))) S hG (c_X7_heightInForce l G A f g H hR (nI k8) (nI (g 0))) gX7_misled_X7_heightInForce rfl ⟨rfl, rfl⟩ nmX7_heightInForce ⟨Nat.le_of_ble_eq_true rfl, Nat.le_of_ble_eq_true rfl⟩ (rd_rcv hG.1 (rP_0 hR) rfl) rfl hl.1 rfl (Nat.le_of_ble_eq_true rfl) ⟨Nat.zero_le _, Nat.zero_le _⟩ dX7_misled_37 ?_
        refine W.eq (g2 := F0 mZ 40 ls [.int (hIF f g (nI k8) (nI (g 0)))]) rfl ?_
        refine lv_topi (fun x5 ex5 => ?_)
        refine lv_istore (lv' := [(5, .int x5), (4, .int x4), (3, .int (nI k8)), (2, .int z8_2), (0, .ref (A 0)), (1, .int cr)]) hx hb dX7_misled_40 hl (by decide) rfl (fun ls hl => ?_)
        refine lv_iload hx hb dX7_misled_42 (lv_at hl 1 rfl) ?_
        refine lv_iconst (v := (-1)) hx hb dX7_misled_44 (by decide) ?_
        refine lv_icmp_eq (tgt := 67) hx hb dX7_misled_45 (by decide) (fun c6 => ?_) (fun c6 => ?_)
        · refine lv_iinc (v := nI (k8 + 1)) (lv' := [(3, .int (nI (k8 + 1))), (5, .int x5), (4, .int x4), (2, .int z8_2), (0, .ref (A 0)), (1, .int cr)]) hx hb dX7_misled_67 hl (k := 2) rfl (nI_inc _) (by decide) rfl (fun ls hl => ?_)
          refine lv_goto (tgt := 8) hx hb dX7_misled_70 (by decide) ?_
          exact ih8 (k8 + 1) (by omega) _ (by subst ex5; subst ex4; subst ez8_2; first | rfl | (simp only [fl, mis, k1, c3, d3, c6, ne_eq, not_true_eq_false, not_false_eq_true, and_true, true_and, and_false, false_and, or_true, true_or, or_false, false_or, and_self, or_self, decide_eq_true_eq, ↓reduceIte]; done) | (simp [fl, mis, k1, c3, d3, c6]; done) | (simp only [fl, mis, k1, c3, d3, c6, ne_eq, not_true_eq_false, not_false_eq_true, and_true, true_and, and_false, false_and, or_true, true_or, or_false, false_or, and_self, or_self, decide_eq_true_eq, ↓reduceIte])) ls (lv_sub hl [0, 3, 4, 5] rfl)
        · refine lv_iload hx hb dX7_misled_48 (lv_at hl 0 rfl) ?_
          refine lv_iconst (v := (-1)) hx hb dX7_misled_50 (by decide) ?_
          refine lv_icmp_eq (tgt := 61) hx hb dX7_misled_51 (by decide) (fun c7 => ?_) (fun c7 => ?_)
          · refine lv_iload_n hx hb dX7_misled_61 rfl (lv_at hl 3 rfl) ?_
            refine lv_iconst (v := 1) hx hb dX7_misled_62 (by decide) ?_
            refine lv_iload_n hx hb dX7_misled_63 rfl (lv_at hl 2 rfl) ?_
            refine lv_ishl hx hb dX7_misled_64 ?_
            refine lv_ior hx hb dX7_misled_65 ?_
            refine lv_topi (fun x8 ex8 => ?_)
            refine lv_istore_n (lv' := [(2, .int x8), (5, .int x5), (4, .int x4), (3, .int (nI k8)), (0, .ref (A 0)), (1, .int cr)]) hx hb dX7_misled_66 rfl hl (by decide) rfl (fun ls hl => ?_)
            refine lv_iinc (v := nI (k8 + 1)) (lv' := [(3, .int (nI (k8 + 1))), (2, .int x8), (5, .int x5), (4, .int x4), (0, .ref (A 0)), (1, .int cr)]) hx hb dX7_misled_67 hl (k := 3) rfl (nI_inc _) (by decide) rfl (fun ls hl => ?_)
            refine lv_goto (tgt := 8) hx hb dX7_misled_70 (by decide) ?_
            exact ih8 (k8 + 1) (by omega) _ (by subst ex8; subst ex5; subst ex4; subst ez8_2; first | rfl | (simp only [fl, mis, k1, c3, d3, c6, c7, ne_eq, not_true_eq_false, not_false_eq_true, and_true, true_and, and_false, false_and, or_true, true_or, or_false, false_or, and_self, or_self, decide_eq_true_eq, ↓reduceIte]; done) | (simp [fl, mis, k1, c3, d3, c6, c7]; done) | (simp only [fl, mis, k1, c3, d3, c6, c7, ne_eq, not_true_eq_false, not_false_eq_true, and_true, true_and, and_false, false_and, or_true, true_or, or_false, false_or, and_self, or_self, decide_eq_true_eq, ↓reduceIte])) ls (lv_sub hl [0, 1, 4, 5] rfl)
          · refine lv_iload hx hb dX7_misled_54 (lv_at hl 0 rfl) ?_
            refine lv_iload hx hb dX7_misled_56 (lv_at hl 1 rfl) ?_
            refine lv_icmp_le (tgt := 67) hx hb dX7_misled_58 (by decide) (fun c9 => ?_) (fun c9 => ?_)
            · have d9 := Int32.not_lt.mpr c9
              refine lv_iinc (v := nI (k8 + 1)) (lv' := [(3, .int (nI (k8 + 1))), (5, .int x5), (4, .int x4), (2, .int z8_2), (0, .ref (A 0)), (1, .int cr)]) hx hb dX7_misled_67 hl (k := 2) rfl (nI_inc _) (by decide) rfl (fun ls hl => ?_)
              refine lv_goto (tgt := 8) hx hb dX7_misled_70 (by decide) ?_
              exact ih8 (k8 + 1) (by omega) _ (by subst ex5; subst ex4; subst ez8_2; first | rfl | (simp only [fl, mis, k1, c3, d3, c6, c7, c9, d9, ne_eq, not_true_eq_false, not_false_eq_true, and_true, true_and, and_false, false_and, or_true, true_or, or_false, false_or, and_self, or_self, decide_eq_true_eq, ↓reduceIte]; done) | (simp [fl, mis, k1, c3, d3, c6, c7, c9, d9]; done) | (simp only [fl, mis, k1, c3, d3, c6, c7, c9, d9, ne_eq, not_true_eq_false, not_false_eq_true, and_true, true_and, and_false, false_and, or_true, true_or, or_false, false_or, and_self, or_self, decide_eq_true_eq, ↓reduceIte])) ls (lv_sub hl [0, 3, 4, 5] rfl)
            · have d9 := Int32.not_le.mp c9
              refine lv_iload_n hx hb dX7_misled_61 rfl (lv_at hl 3 rfl) ?_
              refine lv_iconst (v := 1) hx hb dX7_misled_62 (by decide) ?_
              refine lv_iload_n hx hb dX7_misled_63 rfl (lv_at hl 2 rfl) ?_
              refine lv_ishl hx hb dX7_misled_64 ?_
              refine lv_ior hx hb dX7_misled_65 ?_
              refine lv_topi (fun x10 ex10 => ?_)
              refine lv_istore_n (lv' := [(2, .int x10), (5, .int x5), (4, .int x4), (3, .int (nI k8)), (0, .ref (A 0)), (1, .int cr)]) hx hb dX7_misled_66 rfl hl (by decide) rfl (fun ls hl => ?_)
              refine lv_iinc (v := nI (k8 + 1)) (lv' := [(3, .int (nI (k8 + 1))), (2, .int x10), (5, .int x5), (4, .int x4), (0, .ref (A 0)), (1, .int cr)]) hx hb dX7_misled_67 hl (k := 3) rfl (nI_inc _) (by decide) rfl (fun ls hl => ?_)
              refine lv_goto (tgt := 8) hx hb dX7_misled_70 (by decide) ?_
              exact ih8 (k8 + 1) (by omega) _ (by subst ex10; subst ex5; subst ex4; subst ez8_2; first | rfl | (simp only [fl, mis, k1, c3, d3, c6, c7, c9, d9, ne_eq, not_true_eq_false, not_false_eq_true, and_true, true_and, and_false, false_and, or_true, true_or, or_false, false_or, and_self, or_self, decide_eq_true_eq, ↓reduceIte]; done) | (simp [fl, mis, k1, c3, d3, c6, c7, c9, d9]; done) | (simp only [fl, mis, k1, c3, d3, c6, c7, c9, d9, ne_eq, not_true_eq_false, not_false_eq_true, and_true, true_and, and_false, false_and, or_true, true_or, or_false, false_or, and_self, or_self, decide_eq_true_eq, ↓reduceIte])) ls (lv_sub hl [0, 1, 4, 5] rfl)
  exact loop8 (g 3) 0 (by omega) _ (by first | rfl | (simp only [fl, mis, k1, ne_eq, not_true_eq_false, not_false_eq_true, and_true, true_and, and_false, false_and, or_true, true_or, or_false, false_or, and_self, or_self, decide_eq_true_eq, ↓reduceIte]; done) | (simp [fl, mis, k1]; done) | (simp only [fl, mis, k1, ne_eq, not_true_eq_false, not_false_eq_true, and_true, true_and, and_false, false_and, or_true, true_or, or_false, false_or, and_self, or_self, decide_eq_true_eq, ↓reduceIte])) ls (lv_sub hl [0, 1, 2, 3] rfl)
theorem nmX7_many : nmV yX7_many RX7 1 := by decide +kernel
set_option maxHeartbeats 4000000 in
set_option maxRecDepth 100000 in
theorem c_X7_many (l : Launch) (G : GT) (hlf : l.stackTraces = false) (A : Nat → Nat) (f : Nat → Nat → Int32) (g : Nat → Nat) (H : Heap) (hR : RP G A f g H) (w : Int32) : RxV l G H yX7_many wsX7_many { frames := 7, cells := 1, slots := 6, locals := 121 } [.ref (A 0), .int w] (koArg w 0 19) (some (.int (mny f g w))) := by
  refine rx_of (cc := cX7_many) (maxL := 2) (ret := (some .int)) (by decide) rfl (Nat.le_of_ble_eq_true rfl) ?_
  intro pZ eZ sZ mZ bZ meZ cZ ls S hr hlk hxt hl hHs hG
  have S : CallFix pZ mZ cZ cX7_many 2 sZ _ wsX7_many RX7 := S
  have hx := S.1
  have hb := S.2.1
  have hown := S.2.2.2.1
  have hts := S.2.2.2.2
  have hl : lv_has ls 2 [(0, .ref (A 0)), (1, .int w)] := hl
  have w0 := hts (.fieldLink RX7 10 "MinimaRoom" "obstacles" "LMinimaRoom$Obstacles;") (by decide +kernel)
  have w1 := hts (.fieldLink RX7 51 "MinimaRoom" "now" "I") (by decide +kernel)
  have w2 := hts (.fieldLink RX7 26 "MinimaRoom" "procedures" "LMinimaRoom$Procedures;") (by decide +kernel)
  have w3 := hts (.fieldLink RX7 33 "MinimaRoom" "amendments" "LMinimaRoom$Amendments;") (by decide +kernel)
  have w4 := hts (.fieldLink RX7 40 "MinimaRoom" "notices" "LMinimaRoom$Notices;") (by decide +kernel)
  have w5 := hts (.fieldLink RX7 19 "MinimaRoom" "aids" "LMinimaRoom$Aids;") (by decide +kernel)
  have w6 := hts (.fieldLink RX7 55 "MinimaRoom" "unsafeTold" "I") (by decide +kernel)
  have w7 := hts (.fieldLink RX7 47 "MinimaRoom" "crews" "LMinimaRoom$Crews;") (by decide +kernel)
  have iX7 : ∀ w ∈ u_ws RX7 TX7 8, w ∈ wsX7_many := by decide +kernel
  have iX4 : ∀ w ∈ u_ws RX4 TX4 6, w ∈ wsX7_many := by decide +kernel
  have iX5 : ∀ w ∈ u_ws RX5 TX5 3, w ∈ wsX7_many := by decide +kernel
  have iX1 : ∀ w ∈ u_ws RX1 TX1 4, w ∈ wsX7_many := by decide +kernel
  have iX3 : ∀ w ∈ u_ws RX3 TX3 7, w ∈ wsX7_many := by decide +kernel
  have iX0 : ∀ w ∈ u_ws RX0 TX0 2, w ∈ wsX7_many := by decide +kernel
  have iX2 : ∀ w ∈ u_ws RX2 TX2 2, w ∈ wsX7_many := by decide +kernel
  have hgb := hR.1
  refine lv_iload_n hx hb dX7_many_0 rfl (lv_at hl 1 rfl) ?_
  refine lv_iconst (v := 0) hx hb dX7_many_1 (by decide) ?_
  refine lv_bipush (v := 19) hx hb dX7_many_2 (by decide) ?_
  refine rx_S (As := [.int w, .int 0, .int 19]) (rest := []) (v := none) S hG (c_X7_requireArgument l G hlf H w 0 19) gX7_many_X7_requireArgument rfl ⟨rfl, rfl⟩ nmX7_requireArgument ⟨Nat.le_of_ble_eq_true rfl, Nat.le_of_ble_eq_true rfl⟩ rfl hl.1 rfl (Nat.le_of_ble_eq_true rfl) ⟨Nat.le_of_ble_eq_true rfl, Nat.le_of_ble_eq_true rfl⟩ dX7_many_4 hxt hlk ⟨Nat.le_of_ble_eq_true rfl, Nat.le_of_ble_eq_true rfl⟩ (fun E t hE hext => ⟨by first | rfl | (simp only [mny, hE, kOr, ne_eq, not_true_eq_false, not_false_eq_true, and_true, true_and, and_false, false_and, or_true, true_or, or_false, false_or, and_self, or_self, decide_eq_true_eq, ↓reduceIte]; done) | (simp only [mny, hE, kOr, ne_eq, not_true_eq_false, not_false_eq_true, and_true, true_and, and_false, false_and, or_true, true_or, or_false, false_or, and_self, or_self, decide_eq_true_eq, ↓reduceIte]; done) | (simp [mny, hE, kOr]; done) | (simp only [mny, hE, kOr, ne_eq, not_true_eq_false, not_false_eq_true, and_true, true_and, and_false, false_and, or_true, true_or, or_false, false_or, and_self, or_self, decide_eq_true_eq, ↓reduceIte]), hext⟩) (fun k1 => ?_)
  refine W.eq (g2 := F0 mZ 7 ls []) rfl ?_
  refine lv_iload_n hx hb dX7_many_7 rfl (lv_at hl 1 rfl) ?_
  refine lv_bipush (v := 16) hx hb dX7_many_8 (by decide) ?_
  refine lv_icmp_lt (tgt := 28) hx hb dX7_many_10 (by decide) (fun c2 => ?_) (fun c2 => ?_)
  · have d2 := Int32.not_le.mpr c2
    refine lv_iload_n hx hb dX7_many_28 rfl (lv_at hl 1 rfl) ?_
    refine lv_bipush (v := 12) hx hb dX7_many_29 (by decide) ?_
    refine lv_icmp_lt (tgt := 49) hx hb dX7_many_31 (by decide) (fun c3 => ?_) (fun c3 => ?_)
    · have d3 := Int32.not_le.mpr c3
      refine lv_iload_n hx hb dX7_many_49 rfl (lv_at hl 1 rfl) ?_
      refine lv_bipush (v := 9) hx hb dX7_many_50 (by decide) ?_
      refine lv_icmp_lt (tgt := 70) hx hb dX7_many_52 (by decide) (fun c4 => ?_) (fun c4 => ?_)
      · have d4 := Int32.not_le.mpr c4
        refine lv_iload_n hx hb dX7_many_70 rfl (lv_at hl 1 rfl) ?_
        by_cases c5 : w = 0
        · refine lv_tableIn (off := 45) (tgt := 116) hx hb dX7_many_71 (by rw [c5]; decide) (by rw [c5]; decide) (by rw [c5]; rfl) (by decide) ?_
          refine lv_aload_n hx hb dX7_many_116 rfl (lv_at hl 0 rfl) ?_
          refine rd_get (own := RX7) (x := .ref (A 1)) S hG.1 iX7 (rP_0 hR) 0 rfl (by decide) w0 rfl dX7_many_117 ?_
          refine rd_getN (own := RX7) (x := .int (nI (g 1))) S hG.1 iX4 (rP_1 hR) 5 rfl (by decide) nest_66 rfl dX7_many_120 ?_
          exact rx_iret S hr hlk dX7_many_123 (by first | rfl | (simp only [mny, k1, kOr, ne_eq, not_true_eq_false, not_false_eq_true, and_true, true_and, and_false, false_and, or_true, true_or, or_false, false_or, and_self, or_self, decide_eq_true_eq, ↓reduceIte]; done) | (simp only [mny, k1, c2, d2, c3, d3, c4, d4, c5, kOr, ne_eq, not_true_eq_false, not_false_eq_true, and_true, true_and, and_false, false_and, or_true, true_or, or_false, false_or, and_self, or_self, decide_eq_true_eq, ↓reduceIte]; done) | (simp [mny, k1, c2, d2, c3, d3, c4, d4, c5, kOr]; done) | (simp only [mny, k1, c2, d2, c3, d3, c4, d4, c5, kOr, ne_eq, not_true_eq_false, not_false_eq_true, and_true, true_and, and_false, false_and, or_true, true_or, or_false, false_or, and_self, or_self, decide_eq_true_eq, ↓reduceIte])) (congrArg (fun z => some (Value.int z)) (by first | rfl | (simp only [mny, k1, c2, d2, c3, d3, c4, d4, c5, ne_eq, not_true_eq_false, not_false_eq_true, and_true, true_and, and_false, false_and, or_true, true_or, or_false, false_or, and_self, or_self, decide_eq_true_eq, ↓reduceIte]; done) | (simp [mny, k1, c2, d2, c3, d3, c4, d4, c5]; done) | (simp only [mny, k1, c2, d2, c3, d3, c4, d4, c5, ne_eq, not_true_eq_false, not_false_eq_true, and_true, true_and, and_false, false_and, or_true, true_or, or_false, false_or, and_self, or_self, decide_eq_true_eq, ↓reduceIte])))
        by_cases c6 : w = 1
        · refine lv_tableIn (off := 53) (tgt := 124) hx hb dX7_many_71 (by rw [c6]; decide) (by rw [c6]; decide) (by rw [c6]; rfl) (by decide) ?_
          refine lv_aload_n hx hb dX7_many_124 rfl (lv_at hl 0 rfl) ?_
          refine rd_get (own := RX7) (x := .int (nI (g 0))) S hG.1 iX7 (rP_0 hR) 6 rfl (by decide) w1 rfl dX7_many_125 ?_
          exact rx_iret S hr hlk dX7_many_128 (by first | rfl | (simp only [mny, k1, kOr, ne_eq, not_true_eq_false, not_false_eq_true, and_true, true_and, and_false, false_and, or_true, true_or, or_false, false_or, and_self, or_self, decide_eq_true_eq, ↓reduceIte]; done) | (simp only [mny, k1, c2, d2, c3, d3, c4, d4, c5, c6, kOr, ne_eq, not_true_eq_false, not_false_eq_true, and_true, true_and, and_false, false_and, or_true, true_or, or_false, false_or, and_self, or_self, decide_eq_true_eq, ↓reduceIte]; done) | (simp [mny, k1, c2, d2, c3, d3, c4, d4, c5, c6, kOr]; done) | (simp only [mny, k1, c2, d2, c3, d3, c4, d4, c5, c6, kOr, ne_eq, not_true_eq_false, not_false_eq_true, and_true, true_and, and_false, false_and, or_true, true_or, or_false, false_or, and_self, or_self, decide_eq_true_eq, ↓reduceIte])) (congrArg (fun z => some (Value.int z)) (by first | rfl | (simp only [mny, k1, c2, d2, c3, d3, c4, d4, c5, c6, ne_eq, not_true_eq_false, not_false_eq_true, and_true, true_and, and_false, false_and, or_true, true_or, or_false, false_or, and_self, or_self, decide_eq_true_eq, ↓reduceIte]; done) | (simp [mny, k1, c2, d2, c3, d3, c4, d4, c5, c6]; done) | (simp only [mny, k1, c2, d2, c3, d3, c4, d4, c5, c6, ne_eq, not_true_eq_false, not_false_eq_true, and_true, true_and, and_false, false_and, or_true, true_or, or_false, false_or, and_self, or_self, decide_eq_true_eq, ↓reduceIte])))
        by_cases c7 : w = 2
        · refine lv_tableIn (off := 58) (tgt := 129) hx hb dX7_many_71 (by rw [c7]; decide) (by rw [c7]; decide) (by rw [c7]; rfl) (by decide) ?_
          refine lv_aload_n hx hb dX7_many_129 rfl (lv_at hl 0 rfl) ?_
          refine rd_get (own := RX7) (x := .ref (A 3)) S hG.1 iX7 (rP_0 hR) 2 rfl (by decide) w2 rfl dX7_many_130 ?_
          refine rd_getN (own := RX7) (x := .int (nI (g 3))) S hG.1 iX5 (rP_3 hR) 2 rfl (by decide) nest_124 rfl dX7_many_133 ?_
          exact rx_iret S hr hlk dX7_many_136 (by first | rfl | (simp only [mny, k1, kOr, ne_eq, not_true_eq_false, not_false_eq_true, and_true, true_and, and_false, false_and, or_true, true_or, or_false, false_or, and_self, or_self, decide_eq_true_eq, ↓reduceIte]; done) | (simp only [mny, k1, c2, d2, c3, d3, c4, d4, c5, c6, c7, kOr, ne_eq, not_true_eq_false, not_false_eq_true, and_true, true_and, and_false, false_and, or_true, true_or, or_false, false_or, and_self, or_self, decide_eq_true_eq, ↓reduceIte]; done) | (simp [mny, k1, c2, d2, c3, d3, c4, d4, c5, c6, c7, kOr]; done) | (simp only [mny, k1, c2, d2, c3, d3, c4, d4, c5, c6, c7, kOr, ne_eq, not_true_eq_false, not_false_eq_true, and_true, true_and, and_false, false_and, or_true, true_or, or_false, false_or, and_self, or_self, decide_eq_true_eq, ↓reduceIte])) (congrArg (fun z => some (Value.int z)) (by first | rfl | (simp only [mny, k1, c2, d2, c3, d3, c4, d4, c5, c6, c7, ne_eq, not_true_eq_false, not_false_eq_true, and_true, true_and, and_false, false_and, or_true, true_or, or_false, false_or, and_self, or_self, decide_eq_true_eq, ↓reduceIte]; done) | (simp [mny, k1, c2, d2, c3, d3, c4, d4, c5, c6, c7]; done) | (simp only [mny, k1, c2, d2, c3, d3, c4, d4, c5, c6, c7, ne_eq, not_true_eq_false, not_false_eq_true, and_true, true_and, and_false, false_and, or_true, true_or, or_false, false_or, and_self, or_self, decide_eq_true_eq, ↓reduceIte])))
        by_cases c8 : w = 3
        · refine lv_tableIn (off := 66) (tgt := 137) hx hb dX7_many_71 (by rw [c8]; decide) (by rw [c8]; decide) (by rw [c8]; rfl) (by decide) ?_
          refine lv_aload_n hx hb dX7_many_137 rfl (lv_at hl 0 rfl) ?_
          refine rd_get (own := RX7) (x := .ref (A 4)) S hG.1 iX7 (rP_0 hR) 3 rfl (by decide) w3 rfl dX7_many_138 ?_
          refine rd_getN (own := RX7) (x := .int (nI (g 4))) S hG.1 iX1 (rP_4 hR) 3 rfl (by decide) nest_143 rfl dX7_many_141 ?_
          exact rx_iret S hr hlk dX7_many_144 (by first | rfl | (simp only [mny, k1, kOr, ne_eq, not_true_eq_false, not_false_eq_true, and_true, true_and, and_false, false_and, or_true, true_or, or_false, false_or, and_self, or_self, decide_eq_true_eq, ↓reduceIte]; done) | (simp only [mny, k1, c2, d2, c3, d3, c4, d4, c5, c6, c7, c8, kOr, ne_eq, not_true_eq_false, not_false_eq_true, and_true, true_and, and_false, false_and, or_true, true_or, or_false, false_or, and_self, or_self, decide_eq_true_eq, ↓reduceIte]; done) | (simp [mny, k1, c2, d2, c3, d3, c4, d4, c5, c6, c7, c8, kOr]; done) | (simp only [mny, k1, c2, d2, c3, d3, c4, d4, c5, c6, c7, c8, kOr, ne_eq, not_true_eq_false, not_false_eq_true, and_true, true_and, and_false, false_and, or_true, true_or, or_false, false_or, and_self, or_self, decide_eq_true_eq, ↓reduceIte])) (congrArg (fun z => some (Value.int z)) (by first | rfl | (simp only [mny, k1, c2, d2, c3, d3, c4, d4, c5, c6, c7, c8, ne_eq, not_true_eq_false, not_false_eq_true, and_true, true_and, and_false, false_and, or_true, true_or, or_false, false_or, and_self, or_self, decide_eq_true_eq, ↓reduceIte]; done) | (simp [mny, k1, c2, d2, c3, d3, c4, d4, c5, c6, c7, c8]; done) | (simp only [mny, k1, c2, d2, c3, d3, c4, d4, c5, c6, c7, c8, ne_eq, not_true_eq_false, not_false_eq_true, and_true, true_and, and_false, false_and, or_true, true_or, or_false, false_or, and_self, or_self, decide_eq_true_eq, ↓reduceIte])))
        by_cases c9 : w = 4
        · refine lv_tableIn (off := 74) (tgt := 145) hx hb dX7_many_71 (by rw [c9]; decide) (by rw [c9]; decide) (by rw [c9]; rfl) (by decide) ?_
          refine lv_aload_n hx hb dX7_many_145 rfl (lv_at hl 0 rfl) ?_
          refine rd_get (own := RX7) (x := .ref (A 5)) S hG.1 iX7 (rP_0 hR) 4 rfl (by decide) w4 rfl dX7_many_146 ?_
          refine rd_getN (own := RX7) (x := .int (nI (g 5))) S hG.1 iX3 (rP_5 hR) 6 rfl (by decide) nest_177 rfl dX7_many_149 ?_
          exact rx_iret S hr hlk dX7_many_152 (by first | rfl | (simp only [mny, k1, kOr, ne_eq, not_true_eq_false, not_false_eq_true, and_true, true_and, and_false, false_and, or_true, true_or, or_false, false_or, and_self, or_self, decide_eq_true_eq, ↓reduceIte]; done) | (simp only [mny, k1, c2, d2, c3, d3, c4, d4, c5, c6, c7, c8, c9, kOr, ne_eq, not_true_eq_false, not_false_eq_true, and_true, true_and, and_false, false_and, or_true, true_or, or_false, false_or, and_self, or_self, decide_eq_true_eq, ↓reduceIte]; done) | (simp [mny, k1, c2, d2, c3, d3, c4, d4, c5, c6, c7, c8, c9, kOr]; done) | (simp only [mny, k1, c2, d2, c3, d3, c4, d4, c5, c6, c7, c8, c9, kOr, ne_eq, not_true_eq_false, not_false_eq_true, and_true, true_and, and_false, false_and, or_true, true_or, or_false, false_or, and_self, or_self, decide_eq_true_eq, ↓reduceIte])) (congrArg (fun z => some (Value.int z)) (by first | rfl | (simp only [mny, k1, c2, d2, c3, d3, c4, d4, c5, c6, c7, c8, c9, ne_eq, not_true_eq_false, not_false_eq_true, and_true, true_and, and_false, false_and, or_true, true_or, or_false, false_or, and_self, or_self, decide_eq_true_eq, ↓reduceIte]; done) | (simp [mny, k1, c2, d2, c3, d3, c4, d4, c5, c6, c7, c8, c9]; done) | (simp only [mny, k1, c2, d2, c3, d3, c4, d4, c5, c6, c7, c8, c9, ne_eq, not_true_eq_false, not_false_eq_true, and_true, true_and, and_false, false_and, or_true, true_or, or_false, false_or, and_self, or_self, decide_eq_true_eq, ↓reduceIte])))
        by_cases c10 : w = 5
        · refine lv_tableIn (off := 82) (tgt := 153) hx hb dX7_many_71 (by rw [c10]; decide) (by rw [c10]; decide) (by rw [c10]; rfl) (by decide) ?_
          refine lv_aload_n hx hb dX7_many_153 rfl (lv_at hl 0 rfl) ?_
          refine rd_get (own := RX7) (x := .ref (A 5)) S hG.1 iX7 (rP_0 hR) 4 rfl (by decide) w4 rfl dX7_many_154 ?_
          refine lv_aload_n hx hb dX7_many_157 rfl (lv_at hl 0 rfl) ?_
          refine rd_get (own := RX7) (x := .int (nI (g 0))) S hG.1 iX7 (rP_0 hR) 6 rfl (by decide) w1 rfl dX7_many_158 ?_
          refine rd_V (As := [.int (nI (g 0))]) (rest := []) (v := some (.int (acOn f (g 5) (nI (g 0))))) S hG (c_X3_activeOn l G A f g H hR (nI (g 0))) gX7_many_X3_activeOn rfl ⟨rfl, rfl⟩ nmX3_activeOn ⟨Nat.le_of_ble_eq_true rfl, Nat.le_of_ble_eq_true rfl⟩ (rd_rcv hG.1 (rP_5 hR) rfl) rfl hl.1 rfl (Nat.le_of_ble_eq_true rfl) ⟨Nat.zero_le _, Nat.zero_le _⟩ dX7_many_161 ?_
          refine W.eq (g2 := F0 mZ 164 ls [.int (acOn f (g 5) (nI (g 0)))]) rfl ?_
          exact rx_iret S hr hlk dX7_many_164 (by first | rfl | (simp only [mny, k1, kOr, ne_eq, not_true_eq_false, not_false_eq_true, and_true, true_and, and_false, false_and, or_true, true_or, or_false, false_or, and_self, or_self, decide_eq_true_eq, ↓reduceIte]; done) | (simp only [mny, k1, c2, d2, c3, d3, c4, d4, c5, c6, c7, c8, c9, c10, kOr, ne_eq, not_true_eq_false, not_false_eq_true, and_true, true_and, and_false, false_and, or_true, true_or, or_false, false_or, and_self, or_self, decide_eq_true_eq, ↓reduceIte]; done) | (simp [mny, k1, c2, d2, c3, d3, c4, d4, c5, c6, c7, c8, c9, c10, kOr]; done) | (simp only [mny, k1, c2, d2, c3, d3, c4, d4, c5, c6, c7, c8, c9, c10, kOr, ne_eq, not_true_eq_false, not_false_eq_true, and_true, true_and, and_false, false_and, or_true, true_or, or_false, false_or, and_self, or_self, decide_eq_true_eq, ↓reduceIte])) (congrArg (fun z => some (Value.int z)) (by first | rfl | (simp only [mny, k1, c2, d2, c3, d3, c4, d4, c5, c6, c7, c8, c9, c10, ne_eq, not_true_eq_false, not_false_eq_true, and_true, true_and, and_false, false_and, or_true, true_or, or_false, false_or, and_self, or_self, decide_eq_true_eq, ↓reduceIte]; done) | (simp [mny, k1, c2, d2, c3, d3, c4, d4, c5, c6, c7, c8, c9, c10]; done) | (simp only [mny, k1, c2, d2, c3, d3, c4, d4, c5, c6, c7, c8, c9, c10, ne_eq, not_true_eq_false, not_false_eq_true, and_true, true_and, and_false, false_and, or_true, true_or, or_false, false_or, and_self, or_self, decide_eq_true_eq, ↓reduceIte])))
        by_cases c11 : w = 6
        · refine lv_tableIn (off := 94) (tgt := 165) hx hb dX7_many_71 (by rw [c11]; decide) (by rw [c11]; decide) (by rw [c11]; rfl) (by decide) ?_
          refine lv_aload_n hx hb dX7_many_165 rfl (lv_at hl 0 rfl) ?_
          refine rd_get (own := RX7) (x := .ref (A 2)) S hG.1 iX7 (rP_0 hR) 1 rfl (by decide) w5 rfl dX7_many_166 ?_
          refine lv_aload_n hx hb dX7_many_169 rfl (lv_at hl 0 rfl) ?_
          refine rd_get (own := RX7) (x := .int (nI (g 0))) S hG.1 iX7 (rP_0 hR) 6 rfl (by decide) w1 rfl dX7_many_170 ?_
          refine rd_V (As := [.int (nI (g 0))]) (rest := []) (v := some (.int (goOn f (nI (g 0))))) S hG (c_X0_goodOn l G A f g H hR (nI (g 0))) gX7_many_X0_goodOn rfl ⟨rfl, rfl⟩ nmX0_goodOn ⟨Nat.le_of_ble_eq_true rfl, Nat.le_of_ble_eq_true rfl⟩ (rd_rcv hG.1 (rP_2 hR) rfl) rfl hl.1 rfl (Nat.le_of_ble_eq_true rfl) ⟨Nat.zero_le _, Nat.zero_le _⟩ dX7_many_173 ?_
          refine W.eq (g2 := F0 mZ 176 ls [.int (goOn f (nI (g 0)))]) rfl ?_
          exact rx_iret S hr hlk dX7_many_176 (by first | rfl | (simp only [mny, k1, kOr, ne_eq, not_true_eq_false, not_false_eq_true, and_true, true_and, and_false, false_and, or_true, true_or, or_false, false_or, and_self, or_self, decide_eq_true_eq, ↓reduceIte]; done) | (simp only [mny, k1, c2, d2, c3, d3, c4, d4, c5, c6, c7, c8, c9, c10, c11, kOr, ne_eq, not_true_eq_false, not_false_eq_true, and_true, true_and, and_false, false_and, or_true, true_or, or_false, false_or, and_self, or_self, decide_eq_true_eq, ↓reduceIte]; done) | (simp [mny, k1, c2, d2, c3, d3, c4, d4, c5, c6, c7, c8, c9, c10, c11, kOr]; done) | (simp only [mny, k1, c2, d2, c3, d3, c4, d4, c5, c6, c7, c8, c9, c10, c11, kOr, ne_eq, not_true_eq_false, not_false_eq_true, and_true, true_and, and_false, false_and, or_true, true_or, or_false, false_or, and_self, or_self, decide_eq_true_eq, ↓reduceIte])) (congrArg (fun z => some (Value.int z)) (by first | rfl | (simp only [mny, k1, c2, d2, c3, d3, c4, d4, c5, c6, c7, c8, c9, c10, c11, ne_eq, not_true_eq_false, not_false_eq_true, and_true, true_and, and_false, false_and, or_true, true_or, or_false, false_or, and_self, or_self, decide_eq_true_eq, ↓reduceIte]; done) | (simp [mny, k1, c2, d2, c3, d3, c4, d4, c5, c6, c7, c8, c9, c10, c11]; done) | (simp only [mny, k1, c2, d2, c3, d3, c4, d4, c5, c6, c7, c8, c9, c10, c11, ne_eq, not_true_eq_false, not_false_eq_true, and_true, true_and, and_false, false_and, or_true, true_or, or_false, false_or, and_self, or_self, decide_eq_true_eq, ↓reduceIte])))
        by_cases c12 : w = 7
        · refine lv_tableIn (off := 106) (tgt := 177) hx hb dX7_many_71 (by rw [c12]; decide) (by rw [c12]; decide) (by rw [c12]; rfl) (by decide) ?_
          refine lv_aload_n hx hb dX7_many_177 rfl (lv_at hl 0 rfl) ?_
          refine rd_V (As := []) (rest := []) (v := some (.int (uSet f g))) S hG (c_X7_unsafeSet l G A f g H hR ) gX7_many_X7_unsafeSet rfl ⟨rfl, rfl⟩ nmX7_unsafeSet ⟨Nat.le_of_ble_eq_true rfl, Nat.le_of_ble_eq_true rfl⟩ (rd_rcv hG.1 (rP_0 hR) rfl) rfl hl.1 rfl (Nat.le_of_ble_eq_true rfl) ⟨Nat.zero_le _, Nat.zero_le _⟩ dX7_many_178 ?_
          refine W.eq (g2 := F0 mZ 181 ls [.int (uSet f g)]) rfl ?_
          exact rx_iret S hr hlk dX7_many_181 (by first | rfl | (simp only [mny, k1, kOr, ne_eq, not_true_eq_false, not_false_eq_true, and_true, true_and, and_false, false_and, or_true, true_or, or_false, false_or, and_self, or_self, decide_eq_true_eq, ↓reduceIte]; done) | (simp only [mny, k1, c2, d2, c3, d3, c4, d4, c5, c6, c7, c8, c9, c10, c11, c12, kOr, ne_eq, not_true_eq_false, not_false_eq_true, and_true, true_and, and_false, false_and, or_true, true_or, or_false, false_or, and_self, or_self, decide_eq_true_eq, ↓reduceIte]; done) | (simp [mny, k1, c2, d2, c3, d3, c4, d4, c5, c6, c7, c8, c9, c10, c11, c12, kOr]; done) | (simp only [mny, k1, c2, d2, c3, d3, c4, d4, c5, c6, c7, c8, c9, c10, c11, c12, kOr, ne_eq, not_true_eq_false, not_false_eq_true, and_true, true_and, and_false, false_and, or_true, true_or, or_false, false_or, and_self, or_self, decide_eq_true_eq, ↓reduceIte])) (congrArg (fun z => some (Value.int z)) (by first | rfl | (simp only [mny, k1, c2, d2, c3, d3, c4, d4, c5, c6, c7, c8, c9, c10, c11, c12, ne_eq, not_true_eq_false, not_false_eq_true, and_true, true_and, and_false, false_and, or_true, true_or, or_false, false_or, and_self, or_self, decide_eq_true_eq, ↓reduceIte]; done) | (simp [mny, k1, c2, d2, c3, d3, c4, d4, c5, c6, c7, c8, c9, c10, c11, c12]; done) | (simp only [mny, k1, c2, d2, c3, d3, c4, d4, c5, c6, c7, c8, c9, c10, c11, c12, ne_eq, not_true_eq_false, not_false_eq_true, and_true, true_and, and_false, false_and, or_true, true_or, or_false, false_or, and_self, or_self, decide_eq_true_eq, ↓reduceIte])))
        refine lv_tableOut (tgt := 182) hx hb dX7_many_71 (by have a0 := lv_neT c5 (a := 0) (by decide); have a1 := lv_neT c6 (a := 1) (by decide); have a2 := lv_neT c7 (a := 2) (by decide); have a3 := lv_neT c8 (a := 3) (by decide); have a4 := lv_neT c9 (a := 4) (by decide); have a5 := lv_neT c10 (a := 5) (by decide); have a6 := lv_neT c11 (a := 6) (by decide); have a7 := lv_neT c12 (a := 7) (by decide); omega) (by decide) ?_
        refine lv_aload_n hx hb dX7_many_182 rfl (lv_at hl 0 rfl) ?_
        refine rd_get (own := RX7) (x := .int (nI (g 7))) S hG.1 iX7 (rP_0 hR) 7 rfl (by decide) w6 rfl dX7_many_183 ?_
        exact rx_iret S hr hlk dX7_many_186 (by first | rfl | (simp only [mny, k1, kOr, ne_eq, not_true_eq_false, not_false_eq_true, and_true, true_and, and_false, false_and, or_true, true_or, or_false, false_or, and_self, or_self, decide_eq_true_eq, ↓reduceIte]; done) | (simp only [mny, k1, c2, d2, c3, d3, c4, d4, c5, c6, c7, c8, c9, c10, c11, c12, kOr, ne_eq, not_true_eq_false, not_false_eq_true, and_true, true_and, and_false, false_and, or_true, true_or, or_false, false_or, and_self, or_self, decide_eq_true_eq, ↓reduceIte]; done) | (simp [mny, k1, c2, d2, c3, d3, c4, d4, c5, c6, c7, c8, c9, c10, c11, c12, kOr]; done) | (simp only [mny, k1, c2, d2, c3, d3, c4, d4, c5, c6, c7, c8, c9, c10, c11, c12, kOr, ne_eq, not_true_eq_false, not_false_eq_true, and_true, true_and, and_false, false_and, or_true, true_or, or_false, false_or, and_self, or_self, decide_eq_true_eq, ↓reduceIte])) (congrArg (fun z => some (Value.int z)) (by first | rfl | (simp only [mny, k1, c2, d2, c3, d3, c4, d4, c5, c6, c7, c8, c9, c10, c11, c12, ne_eq, not_true_eq_false, not_false_eq_true, and_true, true_and, and_false, false_and, or_true, true_or, or_false, false_or, and_self, or_self, decide_eq_true_eq, ↓reduceIte]; done) | (simp [mny, k1, c2, d2, c3, d3, c4, d4, c5, c6, c7, c8, c9, c10, c11, c12]; done) | (simp only [mny, k1, c2, d2, c3, d3, c4, d4, c5, c6, c7, c8, c9, c10, c11, c12, ne_eq, not_true_eq_false, not_false_eq_true, and_true, true_and, and_false, false_and, or_true, true_or, or_false, false_or, and_self, or_self, decide_eq_true_eq, ↓reduceIte])))
      · have d4 := Int32.not_lt.mp c4
        refine lv_aload_n hx hb dX7_many_55 rfl (lv_at hl 0 rfl) ?_
        refine rd_get (own := RX7) (x := .ref (A 2)) S hG.1 iX7 (rP_0 hR) 1 rfl (by decide) w5 rfl dX7_many_56 ?_
        refine rd_getN (own := RX7) (x := .ref (A 16)) S hG.1 iX0 (rP_2 hR) 1 rfl (by decide) nest_121 rfl dX7_many_59 ?_
        refine lv_iload_n hx hb dX7_many_62 rfl (lv_at hl 1 rfl) ?_
        refine lv_bipush (v := 9) hx hb dX7_many_63 (by decide) ?_
        refine lv_isub hx hb dX7_many_65 ?_
        refine rd_V (As := [.int (w - 9)]) (rest := []) (v := some (.int (rowAt 3 (f 16) (w - 9)))) S hG (c_X6_at l G H (A 16) (A 36) 3 (f 16) (by decide) (rP_16 hR) (rP_36 hR) (w - 9)) gX7_many_X6_at rfl ⟨rfl, rfl⟩ nmX6_at ⟨Nat.le_of_ble_eq_true rfl, Nat.le_of_ble_eq_true rfl⟩ (rd_rcv hG.1 (rP_16 hR) rfl) rfl hl.1 rfl (Nat.le_of_ble_eq_true rfl) ⟨Nat.zero_le _, Nat.zero_le _⟩ dX7_many_66 ?_
        refine W.eq (g2 := F0 mZ 69 ls [.int (rowAt 3 (f 16) (w - 9))]) rfl ?_
        exact rx_iret S hr hlk dX7_many_69 (by first | rfl | (simp only [mny, k1, kOr, ne_eq, not_true_eq_false, not_false_eq_true, and_true, true_and, and_false, false_and, or_true, true_or, or_false, false_or, and_self, or_self, decide_eq_true_eq, ↓reduceIte]; done) | (simp only [mny, k1, c2, d2, c3, d3, c4, d4, kOr, ne_eq, not_true_eq_false, not_false_eq_true, and_true, true_and, and_false, false_and, or_true, true_or, or_false, false_or, and_self, or_self, decide_eq_true_eq, ↓reduceIte]; done) | (simp [mny, k1, c2, d2, c3, d3, c4, d4, kOr]; done) | (simp only [mny, k1, c2, d2, c3, d3, c4, d4, kOr, ne_eq, not_true_eq_false, not_false_eq_true, and_true, true_and, and_false, false_and, or_true, true_or, or_false, false_or, and_self, or_self, decide_eq_true_eq, ↓reduceIte])) (congrArg (fun z => some (Value.int z)) (by first | rfl | (simp only [mny, k1, c2, d2, c3, d3, c4, d4, ne_eq, not_true_eq_false, not_false_eq_true, and_true, true_and, and_false, false_and, or_true, true_or, or_false, false_or, and_self, or_self, decide_eq_true_eq, ↓reduceIte]; done) | (simp [mny, k1, c2, d2, c3, d3, c4, d4]; done) | (simp only [mny, k1, c2, d2, c3, d3, c4, d4, ne_eq, not_true_eq_false, not_false_eq_true, and_true, true_and, and_false, false_and, or_true, true_or, or_false, false_or, and_self, or_self, decide_eq_true_eq, ↓reduceIte])))
    · have d3 := Int32.not_lt.mp c3
      refine lv_aload_n hx hb dX7_many_34 rfl (lv_at hl 0 rfl) ?_
      refine rd_get (own := RX7) (x := .ref (A 6)) S hG.1 iX7 (rP_0 hR) 5 rfl (by decide) w7 rfl dX7_many_35 ?_
      refine rd_getN (own := RX7) (x := .ref (A 28)) S hG.1 iX2 (rP_6 hR) 0 rfl (by decide) nest_171 rfl dX7_many_38 ?_
      refine lv_iload_n hx hb dX7_many_41 rfl (lv_at hl 1 rfl) ?_
      refine lv_bipush (v := 12) hx hb dX7_many_42 (by decide) ?_
      refine lv_isub hx hb dX7_many_44 ?_
      refine rd_V (As := [.int (w - 12)]) (rest := []) (v := some (.int (rowAt 4 (f 28) (w - 12)))) S hG (c_X6_at l G H (A 28) (A 48) 4 (f 28) (by decide) (rP_28 hR) (rP_48 hR) (w - 12)) gX7_many_X6_at rfl ⟨rfl, rfl⟩ nmX6_at ⟨Nat.le_of_ble_eq_true rfl, Nat.le_of_ble_eq_true rfl⟩ (rd_rcv hG.1 (rP_28 hR) rfl) rfl hl.1 rfl (Nat.le_of_ble_eq_true rfl) ⟨Nat.zero_le _, Nat.zero_le _⟩ dX7_many_45 ?_
      refine W.eq (g2 := F0 mZ 48 ls [.int (rowAt 4 (f 28) (w - 12))]) rfl ?_
      exact rx_iret S hr hlk dX7_many_48 (by first | rfl | (simp only [mny, k1, kOr, ne_eq, not_true_eq_false, not_false_eq_true, and_true, true_and, and_false, false_and, or_true, true_or, or_false, false_or, and_self, or_self, decide_eq_true_eq, ↓reduceIte]; done) | (simp only [mny, k1, c2, d2, c3, d3, kOr, ne_eq, not_true_eq_false, not_false_eq_true, and_true, true_and, and_false, false_and, or_true, true_or, or_false, false_or, and_self, or_self, decide_eq_true_eq, ↓reduceIte]; done) | (simp [mny, k1, c2, d2, c3, d3, kOr]; done) | (simp only [mny, k1, c2, d2, c3, d3, kOr, ne_eq, not_true_eq_false, not_false_eq_true, and_true, true_and, and_false, false_and, or_true, true_or, or_false, false_or, and_self, or_self, decide_eq_true_eq, ↓reduceIte])) (congrArg (fun z => some (Value.int z)) (by first | rfl | (simp only [mny, k1, c2, d2, c3, d3, ne_eq, not_true_eq_false, not_false_eq_true, and_true, true_and, and_false, false_and, or_true, true_or, or_false, false_or, and_self, or_self, decide_eq_true_eq, ↓reduceIte]; done) | (simp [mny, k1, c2, d2, c3, d3]; done) | (simp only [mny, k1, c2, d2, c3, d3, ne_eq, not_true_eq_false, not_false_eq_true, and_true, true_and, and_false, false_and, or_true, true_or, or_false, false_or, and_self, or_self, decide_eq_true_eq, ↓reduceIte])))
  · have d2 := Int32.not_lt.mp c2
    refine lv_aload_n hx hb dX7_many_13 rfl (lv_at hl 0 rfl) ?_
    refine rd_get (own := RX7) (x := .ref (A 6)) S hG.1 iX7 (rP_0 hR) 5 rfl (by decide) w7 rfl dX7_many_14 ?_
    refine rd_getN (own := RX7) (x := .ref (A 29)) S hG.1 iX2 (rP_6 hR) 1 rfl (by decide) nest_174 rfl dX7_many_17 ?_
    refine lv_iload_n hx hb dX7_many_20 rfl (lv_at hl 1 rfl) ?_
    refine lv_bipush (v := 16) hx hb dX7_many_21 (by decide) ?_
    refine lv_isub hx hb dX7_many_23 ?_
    refine rd_V (As := [.int (w - 16)]) (rest := []) (v := some (.int (rowAt 4 (f 29) (w - 16)))) S hG (c_X6_at l G H (A 29) (A 49) 4 (f 29) (by decide) (rP_29 hR) (rP_49 hR) (w - 16)) gX7_many_X6_at rfl ⟨rfl, rfl⟩ nmX6_at ⟨Nat.le_of_ble_eq_true rfl, Nat.le_of_ble_eq_true rfl⟩ (rd_rcv hG.1 (rP_29 hR) rfl) rfl hl.1 rfl (Nat.le_of_ble_eq_true rfl) ⟨Nat.zero_le _, Nat.zero_le _⟩ dX7_many_24 ?_
    refine W.eq (g2 := F0 mZ 27 ls [.int (rowAt 4 (f 29) (w - 16))]) rfl ?_
    exact rx_iret S hr hlk dX7_many_27 (by first | rfl | (simp only [mny, k1, kOr, ne_eq, not_true_eq_false, not_false_eq_true, and_true, true_and, and_false, false_and, or_true, true_or, or_false, false_or, and_self, or_self, decide_eq_true_eq, ↓reduceIte]; done) | (simp only [mny, k1, c2, d2, kOr, ne_eq, not_true_eq_false, not_false_eq_true, and_true, true_and, and_false, false_and, or_true, true_or, or_false, false_or, and_self, or_self, decide_eq_true_eq, ↓reduceIte]; done) | (simp [mny, k1, c2, d2, kOr]; done) | (simp only [mny, k1, c2, d2, kOr, ne_eq, not_true_eq_false, not_false_eq_true, and_true, true_and, and_false, false_and, or_true, true_or, or_false, false_or, and_self, or_self, decide_eq_true_eq, ↓reduceIte])) (congrArg (fun z => some (Value.int z)) (by first | rfl | (simp only [mny, k1, c2, d2, ne_eq, not_true_eq_false, not_false_eq_true, and_true, true_and, and_false, false_and, or_true, true_or, or_false, false_or, and_self, or_self, decide_eq_true_eq, ↓reduceIte]; done) | (simp [mny, k1, c2, d2]; done) | (simp only [mny, k1, c2, d2, ne_eq, not_true_eq_false, not_false_eq_true, and_true, true_and, and_false, false_and, or_true, true_or, or_false, false_or, and_self, or_self, decide_eq_true_eq, ↓reduceIte])))
theorem nmX7_unsafeOn : nmV yX7_unsafeOn RX7 1 := by decide +kernel
set_option maxHeartbeats 4000000 in
set_option maxRecDepth 100000 in
theorem c_X7_unsafeOn (l : Launch) (G : GT) (hlf : l.stackTraces = false) (A : Nat → Nat) (f : Nat → Nat → Int32) (g : Nat → Nat) (H : Heap) (hR : RP G A f g H) (i : Int32) (hg0 : g 0 ≤ 399) : RxV l G H yX7_unsafeOn wsX7_unsafeOn { frames := 7, cells := 1, slots := 6, locals := 103 } [.ref (A 0), .int i] (koIx i (g 3)) (some (.int (uOn f g i (400 - g 0) 0))) := by
  refine rx_of (cc := cX7_unsafeOn) (maxL := 4) (ret := (some .int)) (by decide) rfl (Nat.le_of_ble_eq_true rfl) ?_
  intro pZ eZ sZ mZ bZ meZ cZ ls S hr hlk hxt hl hHs hG
  have S : CallFix pZ mZ cZ cX7_unsafeOn 4 sZ _ wsX7_unsafeOn RX7 := S
  have hx := S.1
  have hb := S.2.1
  have hown := S.2.2.2.1
  have hts := S.2.2.2.2
  have hl : lv_has ls 4 [(0, .ref (A 0)), (1, .int i)] := hl
  have w0 := hts (.fieldLink RX7 51 "MinimaRoom" "now" "I") (by decide +kernel)
  have iX7 : ∀ w ∈ u_ws RX7 TX7 8, w ∈ wsX7_unsafeOn := by decide +kernel
  have hgb := hR.1
  refine lv_aload_n hx hb dX7_unsafeOn_0 rfl (lv_at hl 0 rfl) ?_
  refine lv_iload_n hx hb dX7_unsafeOn_1 rfl (lv_at hl 1 rfl) ?_
  refine rx_V (As := [.int i]) (rest := []) (v := none) S hG (c_X7_requireProcedure l G hlf A f g H hR i) gX7_unsafeOn_X7_requireProcedure rfl ⟨rfl, rfl⟩ nmX7_requireProcedure ⟨Nat.le_of_ble_eq_true rfl, Nat.le_of_ble_eq_true rfl⟩ (rd_rcv hG.1 (rP_0 hR) rfl) rfl hl.1 rfl (Nat.le_of_ble_eq_true rfl) ⟨Nat.le_of_ble_eq_true rfl, Nat.le_of_ble_eq_true rfl⟩ dX7_unsafeOn_2 hxt hlk ⟨Nat.le_of_ble_eq_true rfl, Nat.le_of_ble_eq_true rfl⟩ (fun E t hE hext => ⟨by first | rfl | (simp only [uOn, isUn, hE, kOr, ne_eq, not_true_eq_false, not_false_eq_true, and_true, true_and, and_false, false_and, or_true, true_or, or_false, false_or, and_self, or_self, decide_eq_true_eq, ↓reduceIte]; done) | (simp only [uOn, isUn, hE, kOr, ne_eq, not_true_eq_false, not_false_eq_true, and_true, true_and, and_false, false_and, or_true, true_or, or_false, false_or, and_self, or_self, decide_eq_true_eq, ↓reduceIte]; done) | (simp [uOn, isUn, hE, kOr]; done) | (simp only [uOn, isUn, hE, kOr, ne_eq, not_true_eq_false, not_false_eq_true, and_true, true_and, and_false, false_and, or_true, true_or, or_false, false_or, and_self, or_self, decide_eq_true_eq, ↓reduceIte]), hext⟩) (fun k1 => ?_)
  refine W.eq (g2 := F0 mZ 5 ls []) rfl ?_
  refine lv_aload_n hx hb dX7_unsafeOn_5 rfl (lv_at hl 0 rfl) ?_
  refine rd_get (own := RX7) (x := .int (nI (g 0))) S hG.1 iX7 (rP_0 hR) 6 rfl (by decide) w0 rfl dX7_unsafeOn_6 ?_
  refine lv_topi (fun x2 ex2 => ?_)
  refine lv_istore_n (lv' := [(2, .int x2), (0, .ref (A 0)), (1, .int i)]) hx hb dX7_unsafeOn_9 rfl hl (by decide) rfl (fun ls hl => ?_)
  subst ex2
  have loop10 : ∀ (n10 k10 : Nat), k10 + n10 = 400 - g 0 → uOn f g i (400 - g 0) 0 = uOn f g i n10 k10 → ∀ (ls : Array Slot), lv_has ls 4 [(2, .int (nI (g 0 + k10))), (0, .ref (A 0)), (1, .int i)] → W pZ l eZ ({ frames := 7, cells := 1, slots := 6, locals := 103 } : Room) sZ mZ ([.ref (A 0), .int i] : List Value).toArray bZ meZ cZ H [] 0 0 (rx_Q bZ H [.ref (A 0), .int i] sZ (koIx i (g 3)) (some (.int (uOn f g i (400 - g 0) 0)))) (F0 mZ 10 ls []) := by
    intro n10
    induction n10 with
    | zero =>
      intro k10 hk10  inv10 ls hl
      obtain rfl : k10 = 400 - g 0 := by omega
      refine lv_iload_n hx hb dX7_unsafeOn_10 rfl (lv_at hl 0 rfl) ?_
      refine lv_sipush (v := 399) hx hb dX7_unsafeOn_11 (by decide) ?_
      refine lv_icmp_gt (tgt := 48) hx hb dX7_unsafeOn_14 (by decide) (fun c3 => ?_) (fun c3 => ?_)
      · have d3 := Int32.not_le.mpr c3
        refine lv_iconst (v := (-1)) hx hb dX7_unsafeOn_48 (by decide) ?_
        exact rx_iret S hr hlk dX7_unsafeOn_49 (by first | rfl | (simp only [uOn, isUn, k1, kOr, ne_eq, not_true_eq_false, not_false_eq_true, and_true, true_and, and_false, false_and, or_true, true_or, or_false, false_or, and_self, or_self, decide_eq_true_eq, ↓reduceIte]; done) | (simp only [uOn, isUn, k1, c3, d3, kOr, ne_eq, not_true_eq_false, not_false_eq_true, and_true, true_and, and_false, false_and, or_true, true_or, or_false, false_or, and_self, or_self, decide_eq_true_eq, ↓reduceIte]; done) | (simp [uOn, isUn, k1, c3, d3, kOr]; done) | (simp only [uOn, isUn, k1, c3, d3, kOr, ne_eq, not_true_eq_false, not_false_eq_true, and_true, true_and, and_false, false_and, or_true, true_or, or_false, false_or, and_self, or_self, decide_eq_true_eq, ↓reduceIte])) (congrArg (fun z => some (Value.int z)) (by exact inv10.trans (by first | rfl | (simp only [uOn, isUn, k1, c3, d3, ne_eq, not_true_eq_false, not_false_eq_true, and_true, true_and, and_false, false_and, or_true, true_or, or_false, false_or, and_self, or_self, decide_eq_true_eq, ↓reduceIte]; done) | (simp [uOn, isUn, k1, c3, d3]; done) | (simp only [uOn, isUn, k1, c3, d3, ne_eq, not_true_eq_false, not_false_eq_true, and_true, true_and, and_false, false_and, or_true, true_or, or_false, false_or, and_self, or_self, decide_eq_true_eq, ↓reduceIte]))))
      · have c3 : ¬ (nI 399 < nI (g 0 + (400 - g 0))) := c3; exact absurd c3 (by first | exact fun h => absurd (Int32.le_refl _) h | exact nI_nlt (by omega) (by omega) | exact nI_ge (by omega) (by omega) | exact fun h => h (nI_lt (by omega) (by omega)) | exact fun h => h (nI_le (by omega) (by omega)) | exact fun h => h (lp_le_cnt _) | exact lp_nle (by omega))
    | succ n10 ih10 =>
      intro k10 hk10  inv10 ls hl
      refine lv_iload_n hx hb dX7_unsafeOn_10 rfl (lv_at hl 0 rfl) ?_
      refine lv_sipush (v := 399) hx hb dX7_unsafeOn_11 (by decide) ?_
      refine lv_icmp_gt (tgt := 48) hx hb dX7_unsafeOn_14 (by decide) (fun c4 => ?_) (fun c4 => ?_)
      · have c4 : nI 399 < nI (g 0 + k10) := c4; exact absurd c4 (by first | exact fun h => absurd (Int32.le_refl _) h | exact nI_nlt (by omega) (by omega) | exact nI_ge (by omega) (by omega) | exact fun h => h (nI_lt (by omega) (by omega)) | exact fun h => h (nI_le (by omega) (by omega)) | exact fun h => h (lp_le_cnt _) | exact lp_nle (by omega))
      · have d4 := Int32.not_lt.mp c4
        refine lv_aload_n hx hb dX7_unsafeOn_17 rfl (lv_at hl 1 rfl) ?_
        refine lv_iload_n hx hb dX7_unsafeOn_18 rfl (lv_at hl 2 rfl) ?_
        refine lv_iload_n hx hb dX7_unsafeOn_19 rfl (lv_at hl 0 rfl) ?_
        refine rd_V (As := [.int i, .int (nI (g 0 + k10))]) (rest := []) (v := some (.int (hIF f g i (nI (g 0 + k10))))) S hG (c_X7_heightInForce l G A f g H hR i (nI (g 0 + k10))) gX7_unsafeOn_X7_heightInForce rfl ⟨rfl, rfl⟩ nmX7_heightInForce ⟨Nat.le_of_ble_eq_true rfl, Nat.le_of_ble_eq_true rfl⟩ (rd_rcv hG.1 (rP_0 hR) rfl) rfl hl.1 rfl (Nat.le_of_ble_eq_true rfl) ⟨Nat.zero_le _, Nat.zero_le _⟩ dX7_unsafeOn_20 ?_
        refine W.eq (g2 := F0 mZ 23 ls [.int (hIF f g i (nI (g 0 + k10)))]) rfl ?_
        refine lv_topi (fun x5 ex5 => ?_)
        refine lv_istore_n (lv' := [(3, .int x5), (2, .int (nI (g 0 + k10))), (0, .ref (A 0)), (1, .int i)]) hx hb dX7_unsafeOn_23 rfl hl (by decide) rfl (fun ls hl => ?_)
        refine lv_iload_n hx hb dX7_unsafeOn_24 rfl (lv_at hl 0 rfl) ?_
        refine lv_iconst (v := (-1)) hx hb dX7_unsafeOn_25 (by decide) ?_
        refine lv_icmp_eq (tgt := 42) hx hb dX7_unsafeOn_26 (by decide) (fun c6 => ?_) (fun c6 => ?_)
        · refine lv_iinc (v := nI ((g 0 + k10) + 1)) (lv' := [(2, .int (nI ((g 0 + k10) + 1))), (3, .int x5), (0, .ref (A 0)), (1, .int i)]) hx hb dX7_unsafeOn_42 hl (k := 1) rfl (nI_inc _) (by decide) rfl (fun ls hl => ?_)
          refine lv_goto (tgt := 10) hx hb dX7_unsafeOn_45 (by decide) ?_
          exact ih10 (k10 + 1) (by omega) (inv10.trans (by subst ex5; first | rfl | (simp only [fl, uOn, isUn, k1, c4, d4, c6, ne_eq, not_true_eq_false, not_false_eq_true, and_true, true_and, and_false, false_and, or_true, true_or, or_false, false_or, and_self, or_self, decide_eq_true_eq, ↓reduceIte]; done) | (simp [fl, uOn, isUn, k1, c4, d4, c6]; done) | (simp only [fl, uOn, isUn, k1, c4, d4, c6, ne_eq, not_true_eq_false, not_false_eq_true, and_true, true_and, and_false, false_and, or_true, true_or, or_false, false_or, and_self, or_self, decide_eq_true_eq, ↓reduceIte]))) ls (lv_sub hl [0, 2, 3] rfl)
        · refine lv_iload_n hx hb dX7_unsafeOn_29 rfl (lv_at hl 0 rfl) ?_
          refine lv_aload_n hx hb dX7_unsafeOn_30 rfl (lv_at hl 2 rfl) ?_
          refine lv_iload_n hx hb dX7_unsafeOn_31 rfl (lv_at hl 3 rfl) ?_
          refine lv_iload_n hx hb dX7_unsafeOn_32 rfl (lv_at hl 1 rfl) ?_
          refine lv_iconst (v := (-1)) hx hb dX7_unsafeOn_33 (by decide) ?_
          refine rd_V (As := [.int i, .int (nI (g 0 + k10)), .int (-1)]) (rest := [.int x5]) (v := some (.int (lH f g i (nI (g 0 + k10)) (-1)))) S hG (c_X7_leastHeight l G A f g H hR i (nI (g 0 + k10)) (-1)) gX7_unsafeOn_X7_leastHeight rfl ⟨rfl, rfl⟩ nmX7_leastHeight ⟨Nat.le_of_ble_eq_true rfl, Nat.le_of_ble_eq_true rfl⟩ (rd_rcv hG.1 (rP_0 hR) rfl) rfl hl.1 rfl (Nat.le_of_ble_eq_true rfl) ⟨Nat.zero_le _, Nat.zero_le _⟩ dX7_unsafeOn_34 ?_
          refine W.eq (g2 := F0 mZ 37 ls [.int (lH f g i (nI (g 0 + k10)) (-1)), .int x5]) rfl ?_
          refine lv_icmp_ge (tgt := 42) hx hb dX7_unsafeOn_37 (by decide) (fun c7 => ?_) (fun c7 => ?_)
          · have d7 := Int32.not_lt.mpr c7
            refine lv_iinc (v := nI ((g 0 + k10) + 1)) (lv' := [(2, .int (nI ((g 0 + k10) + 1))), (3, .int x5), (0, .ref (A 0)), (1, .int i)]) hx hb dX7_unsafeOn_42 hl (k := 1) rfl (nI_inc _) (by decide) rfl (fun ls hl => ?_)
            refine lv_goto (tgt := 10) hx hb dX7_unsafeOn_45 (by decide) ?_
            exact ih10 (k10 + 1) (by omega) (inv10.trans (by subst ex5; first | rfl | (simp only [fl, uOn, isUn, k1, c4, d4, c6, c7, d7, ne_eq, not_true_eq_false, not_false_eq_true, and_true, true_and, and_false, false_and, or_true, true_or, or_false, false_or, and_self, or_self, decide_eq_true_eq, ↓reduceIte]; done) | (simp [fl, uOn, isUn, k1, c4, d4, c6, c7, d7]; done) | (simp only [fl, uOn, isUn, k1, c4, d4, c6, c7, d7, ne_eq, not_true_eq_false, not_false_eq_true, and_true, true_and, and_false, false_and, or_true, true_or, or_false, false_or, and_self, or_self, decide_eq_true_eq, ↓reduceIte]))) ls (lv_sub hl [0, 2, 3] rfl)
          · have d7 := Int32.not_le.mp c7
            refine lv_iload_n hx hb dX7_unsafeOn_40 rfl (lv_at hl 1 rfl) ?_
            exact rx_iret S hr hlk dX7_unsafeOn_41 (by subst ex5; first | rfl | (simp only [uOn, isUn, k1, kOr, ne_eq, not_true_eq_false, not_false_eq_true, and_true, true_and, and_false, false_and, or_true, true_or, or_false, false_or, and_self, or_self, decide_eq_true_eq, ↓reduceIte]; done) | (simp only [uOn, isUn, k1, c4, d4, c6, c7, d7, kOr, ne_eq, not_true_eq_false, not_false_eq_true, and_true, true_and, and_false, false_and, or_true, true_or, or_false, false_or, and_self, or_self, decide_eq_true_eq, ↓reduceIte]; done) | (simp [uOn, isUn, k1, c4, d4, c6, c7, d7, kOr]; done) | (simp only [uOn, isUn, k1, c4, d4, c6, c7, d7, kOr, ne_eq, not_true_eq_false, not_false_eq_true, and_true, true_and, and_false, false_and, or_true, true_or, or_false, false_or, and_self, or_self, decide_eq_true_eq, ↓reduceIte])) (congrArg (fun z => some (Value.int z)) (by exact inv10.trans (by subst ex5; first | rfl | (simp only [uOn, isUn, k1, c4, d4, c6, c7, d7, ne_eq, not_true_eq_false, not_false_eq_true, and_true, true_and, and_false, false_and, or_true, true_or, or_false, false_or, and_self, or_self, decide_eq_true_eq, ↓reduceIte]; done) | (simp [uOn, isUn, k1, c4, d4, c6, c7, d7]; done) | (simp only [uOn, isUn, k1, c4, d4, c6, c7, d7, ne_eq, not_true_eq_false, not_false_eq_true, and_true, true_and, and_false, false_and, or_true, true_or, or_false, false_or, and_self, or_self, decide_eq_true_eq, ↓reduceIte]))))
  exact loop10 (400 - g 0) 0 (by omega) (by rfl) ls (lv_sub hl [0, 1, 2] rfl)
theorem nmX7_raiseFor : nmV yX7_raiseFor RX7 1 := by decide +kernel
set_option maxHeartbeats 4000000 in
set_option maxRecDepth 100000 in
theorem c_X7_raiseFor (l : Launch) (G : GT) (hlf : l.stackTraces = false) (A : Nat → Nat) (f : Nat → Nat → Int32) (g : Nat → Nat) (H : Heap) (hR : RP G A f g H) (i : Int32) (hg0 : g 0 ≤ 399) : RxV l G H yX7_raiseFor wsX7_raiseFor { frames := 7, cells := 1, slots := 6, locals := 103 } [.ref (A 0), .int i] (koIx i (g 3)) (some (.int (rFo f g i))) := by
  refine rx_of (cc := cX7_raiseFor) (maxL := 6) (ret := (some .int)) (by decide) rfl (Nat.le_of_ble_eq_true rfl) ?_
  intro pZ eZ sZ mZ bZ meZ cZ ls S hr hlk hxt hl hHs hG
  have S : CallFix pZ mZ cZ cX7_raiseFor 6 sZ _ wsX7_raiseFor RX7 := S
  have hx := S.1
  have hb := S.2.1
  have hown := S.2.2.2.1
  have hts := S.2.2.2.2
  have hl : lv_has ls 6 [(0, .ref (A 0)), (1, .int i)] := hl
  have w0 := hts (.fieldLink RX7 51 "MinimaRoom" "now" "I") (by decide +kernel)
  have w1 := hts (.fieldLink RX7 33 "MinimaRoom" "amendments" "LMinimaRoom$Amendments;") (by decide +kernel)
  have iX7 : ∀ w ∈ u_ws RX7 TX7 8, w ∈ wsX7_raiseFor := by decide +kernel
  have m_max_98 : [.methodLink RX7 98 Lib.Math.max.name, .static Lib.Math.max.name, .initialized "java/lang/Math", .code Lib.Math.max.name Lib.Math.max.code 2 (some .int)] ⊆ wsX7_raiseFor := by decide +kernel
  have hgb := hR.1
  refine lv_aload_n hx hb dX7_raiseFor_0 rfl (lv_at hl 0 rfl) ?_
  refine lv_iload_n hx hb dX7_raiseFor_1 rfl (lv_at hl 1 rfl) ?_
  refine rx_V (As := [.int i]) (rest := []) (v := none) S hG (c_X7_requireProcedure l G hlf A f g H hR i) gX7_raiseFor_X7_requireProcedure rfl ⟨rfl, rfl⟩ nmX7_requireProcedure ⟨Nat.le_of_ble_eq_true rfl, Nat.le_of_ble_eq_true rfl⟩ (rd_rcv hG.1 (rP_0 hR) rfl) rfl hl.1 rfl (Nat.le_of_ble_eq_true rfl) ⟨Nat.le_of_ble_eq_true rfl, Nat.le_of_ble_eq_true rfl⟩ dX7_raiseFor_2 hxt hlk ⟨Nat.le_of_ble_eq_true rfl, Nat.le_of_ble_eq_true rfl⟩ (fun E t hE hext => ⟨by first | rfl | (simp only [rFo, rFL, hE, kOr, ne_eq, not_true_eq_false, not_false_eq_true, and_true, true_and, and_false, false_and, or_true, true_or, or_false, false_or, and_self, or_self, decide_eq_true_eq, ↓reduceIte]; done) | (simp only [rFo, rFL, hE, kOr, ne_eq, not_true_eq_false, not_false_eq_true, and_true, true_and, and_false, false_and, or_true, true_or, or_false, false_or, and_self, or_self, decide_eq_true_eq, ↓reduceIte]; done) | (simp [rFo, rFL, hE, kOr]; done) | (simp only [rFo, rFL, hE, kOr, ne_eq, not_true_eq_false, not_false_eq_true, and_true, true_and, and_false, false_and, or_true, true_or, or_false, false_or, and_self, or_self, decide_eq_true_eq, ↓reduceIte]), hext⟩) (fun k1 => ?_)
  refine W.eq (g2 := F0 mZ 5 ls []) rfl ?_
  refine lv_iconst (v := 0) hx hb dX7_raiseFor_5 (by decide) ?_
  refine lv_istore_n (lv' := [(2, .int 0), (0, .ref (A 0)), (1, .int i)]) hx hb dX7_raiseFor_6 rfl hl (by decide) rfl (fun ls hl => ?_)
  refine lv_aload_n hx hb dX7_raiseFor_7 rfl (lv_at hl 1 rfl) ?_
  refine rd_get (own := RX7) (x := .int (nI (g 0))) S hG.1 iX7 (rP_0 hR) 6 rfl (by decide) w0 rfl dX7_raiseFor_8 ?_
  refine lv_topi (fun x2 ex2 => ?_)
  refine lv_istore_n (lv' := [(3, .int x2), (2, .int 0), (0, .ref (A 0)), (1, .int i)]) hx hb dX7_raiseFor_11 rfl hl (by decide) rfl (fun ls hl => ?_)
  subst ex2
  have loop12 : ∀ (n12 k12 : Nat), k12 + n12 = 400 - g 0 → ∀ (z12_2 : Int32), z12_2 = fl k12 (fun j by_ => if isUn f g i (nI (g 0 + j)) = true then imax by_ (lH f g i (nI (g 0 + j)) (-1) - hOn f i (nI (g 0 + j)) (g 4)) else by_) 0 → ∀ (ls : Array Slot), lv_has ls 6 [(3, .int (nI (g 0 + k12))), (2, .int z12_2), (0, .ref (A 0)), (1, .int i)] → W pZ l eZ ({ frames := 7, cells := 1, slots := 6, locals := 103 } : Room) sZ mZ ([.ref (A 0), .int i] : List Value).toArray bZ meZ cZ H [] 0 0 (rx_Q bZ H [.ref (A 0), .int i] sZ (koIx i (g 3)) (some (.int (rFo f g i)))) (F0 mZ 12 ls []) := by
    intro n12
    induction n12 with
    | zero =>
      intro k12 hk12 z12_2 ez12_2 ls hl
      obtain rfl : k12 = 400 - g 0 := by omega
      refine lv_iload_n hx hb dX7_raiseFor_12 rfl (lv_at hl 0 rfl) ?_
      refine lv_sipush (v := 399) hx hb dX7_raiseFor_13 (by decide) ?_
      refine lv_icmp_gt (tgt := 75) hx hb dX7_raiseFor_16 (by decide) (fun c3 => ?_) (fun c3 => ?_)
      · have d3 := Int32.not_le.mpr c3
        refine lv_iload_n hx hb dX7_raiseFor_75 rfl (lv_at hl 1 rfl) ?_
        refine lv_sipush (v := 500) hx hb dX7_raiseFor_76 (by decide) ?_
        refine lv_icmp_gt (tgt := 86) hx hb dX7_raiseFor_79 (by decide) (fun c4 => ?_) (fun c4 => ?_)
        · have d4 := Int32.not_le.mpr c4
          refine lv_iconst (v := (-1)) hx hb dX7_raiseFor_86 (by decide) ?_
          exact rx_iret S hr hlk dX7_raiseFor_87 (by subst ez12_2; first | rfl | (simp only [rFo, rFL, k1, kOr, ne_eq, not_true_eq_false, not_false_eq_true, and_true, true_and, and_false, false_and, or_true, true_or, or_false, false_or, and_self, or_self, decide_eq_true_eq, ↓reduceIte]; done) | (simp only [rFo, rFL, k1, c3, d3, c4, d4, kOr, ne_eq, not_true_eq_false, not_false_eq_true, and_true, true_and, and_false, false_and, or_true, true_or, or_false, false_or, and_self, or_self, decide_eq_true_eq, ↓reduceIte]; done) | (simp [rFo, rFL, k1, c3, d3, c4, d4, kOr]; done) | (simp only [rFo, rFL, k1, c3, d3, c4, d4, kOr, ne_eq, not_true_eq_false, not_false_eq_true, and_true, true_and, and_false, false_and, or_true, true_or, or_false, false_or, and_self, or_self, decide_eq_true_eq, ↓reduceIte])) (congrArg (fun z => some (Value.int z)) (by subst ez12_2; first | rfl | (simp only [rFo, rFL, k1, c3, d3, c4, d4, ne_eq, not_true_eq_false, not_false_eq_true, and_true, true_and, and_false, false_and, or_true, true_or, or_false, false_or, and_self, or_self, decide_eq_true_eq, ↓reduceIte]; done) | (simp [rFo, rFL, k1, c3, d3, c4, d4]; done) | (simp only [rFo, rFL, k1, c3, d3, c4, d4, ne_eq, not_true_eq_false, not_false_eq_true, and_true, true_and, and_false, false_and, or_true, true_or, or_false, false_or, and_self, or_self, decide_eq_true_eq, ↓reduceIte])))
        · have d4 := Int32.not_lt.mp c4
          refine lv_iload_n hx hb dX7_raiseFor_82 rfl (lv_at hl 1 rfl) ?_
          refine lv_goto (tgt := 87) hx hb dX7_raiseFor_83 (by decide) ?_
          exact rx_iret S hr hlk dX7_raiseFor_87 (by subst ez12_2; first | rfl | (simp only [rFo, rFL, k1, kOr, ne_eq, not_true_eq_false, not_false_eq_true, and_true, true_and, and_false, false_and, or_true, true_or, or_false, false_or, and_self, or_self, decide_eq_true_eq, ↓reduceIte]; done) | (simp only [rFo, rFL, k1, c3, d3, c4, d4, kOr, ne_eq, not_true_eq_false, not_false_eq_true, and_true, true_and, and_false, false_and, or_true, true_or, or_false, false_or, and_self, or_self, decide_eq_true_eq, ↓reduceIte]; done) | (simp [rFo, rFL, k1, c3, d3, c4, d4, kOr]; done) | (simp only [rFo, rFL, k1, c3, d3, c4, d4, kOr, ne_eq, not_true_eq_false, not_false_eq_true, and_true, true_and, and_false, false_and, or_true, true_or, or_false, false_or, and_self, or_self, decide_eq_true_eq, ↓reduceIte])) (congrArg (fun z => some (Value.int z)) (by subst ez12_2; first | rfl | (simp only [rFo, rFL, k1, c3, d3, c4, d4, ne_eq, not_true_eq_false, not_false_eq_true, and_true, true_and, and_false, false_and, or_true, true_or, or_false, false_or, and_self, or_self, decide_eq_true_eq, ↓reduceIte]; done) | (simp [rFo, rFL, k1, c3, d3, c4, d4]; done) | (simp only [rFo, rFL, k1, c3, d3, c4, d4, ne_eq, not_true_eq_false, not_false_eq_true, and_true, true_and, and_false, false_and, or_true, true_or, or_false, false_or, and_self, or_self, decide_eq_true_eq, ↓reduceIte])))
      · have c3 : ¬ (nI 399 < nI (g 0 + (400 - g 0))) := c3; exact absurd c3 (by first | exact fun h => absurd (Int32.le_refl _) h | exact nI_nlt (by omega) (by omega) | exact nI_ge (by omega) (by omega) | exact fun h => h (nI_lt (by omega) (by omega)) | exact fun h => h (nI_le (by omega) (by omega)) | exact fun h => h (lp_le_cnt _) | exact lp_nle (by omega))
    | succ n12 ih12 =>
      intro k12 hk12 z12_2 ez12_2 ls hl
      refine lv_iload_n hx hb dX7_raiseFor_12 rfl (lv_at hl 0 rfl) ?_
      refine lv_sipush (v := 399) hx hb dX7_raiseFor_13 (by decide) ?_
      refine lv_icmp_gt (tgt := 75) hx hb dX7_raiseFor_16 (by decide) (fun c5 => ?_) (fun c5 => ?_)
      · have c5 : nI 399 < nI (g 0 + k12) := c5; exact absurd c5 (by first | exact fun h => absurd (Int32.le_refl _) h | exact nI_nlt (by omega) (by omega) | exact nI_ge (by omega) (by omega) | exact fun h => h (nI_lt (by omega) (by omega)) | exact fun h => h (nI_le (by omega) (by omega)) | exact fun h => h (lp_le_cnt _) | exact lp_nle (by omega))
      · have d5 := Int32.not_lt.mp c5
        refine lv_aload_n hx hb dX7_raiseFor_19 rfl (lv_at hl 2 rfl) ?_
        refine lv_iload_n hx hb dX7_raiseFor_20 rfl (lv_at hl 3 rfl) ?_
        refine lv_iload_n hx hb dX7_raiseFor_21 rfl (lv_at hl 0 rfl) ?_
        refine rd_V (As := [.int i, .int (nI (g 0 + k12))]) (rest := []) (v := some (.int (hIF f g i (nI (g 0 + k12))))) S hG (c_X7_heightInForce l G A f g H hR i (nI (g 0 + k12))) gX7_raiseFor_X7_heightInForce rfl ⟨rfl, rfl⟩ nmX7_heightInForce ⟨Nat.le_of_ble_eq_true rfl, Nat.le_of_ble_eq_true rfl⟩ (rd_rcv hG.1 (rP_0 hR) rfl) rfl hl.1 rfl (Nat.le_of_ble_eq_true rfl) ⟨Nat.zero_le _, Nat.zero_le _⟩ dX7_raiseFor_22 ?_
        refine W.eq (g2 := F0 mZ 25 ls [.int (hIF f g i (nI (g 0 + k12)))]) rfl ?_
        refine lv_topi (fun x6 ex6 => ?_)
        refine lv_istore (lv' := [(4, .int x6), (3, .int (nI (g 0 + k12))), (2, .int z12_2), (0, .ref (A 0)), (1, .int i)]) hx hb dX7_raiseFor_25 hl (by decide) rfl (fun ls hl => ?_)
        refine lv_iload hx hb dX7_raiseFor_27 (lv_at hl 0 rfl) ?_
        refine lv_iconst (v := (-1)) hx hb dX7_raiseFor_29 (by decide) ?_
        refine lv_icmp_ne (tgt := 36) hx hb dX7_raiseFor_30 (by decide) (fun c7 => ?_) (fun c7 => ?_)
        · refine lv_aload_n hx hb dX7_raiseFor_36 rfl (lv_at hl 3 rfl) ?_
          refine lv_iload_n hx hb dX7_raiseFor_37 rfl (lv_at hl 4 rfl) ?_
          refine lv_iload_n hx hb dX7_raiseFor_38 rfl (lv_at hl 1 rfl) ?_
          refine lv_iconst (v := (-1)) hx hb dX7_raiseFor_39 (by decide) ?_
          refine rd_V (As := [.int i, .int (nI (g 0 + k12)), .int (-1)]) (rest := []) (v := some (.int (lH f g i (nI (g 0 + k12)) (-1)))) S hG (c_X7_leastHeight l G A f g H hR i (nI (g 0 + k12)) (-1)) gX7_raiseFor_X7_leastHeight rfl ⟨rfl, rfl⟩ nmX7_leastHeight ⟨Nat.le_of_ble_eq_true rfl, Nat.le_of_ble_eq_true rfl⟩ (rd_rcv hG.1 (rP_0 hR) rfl) rfl hl.1 rfl (Nat.le_of_ble_eq_true rfl) ⟨Nat.zero_le _, Nat.zero_le _⟩ dX7_raiseFor_40 ?_
          refine W.eq (g2 := F0 mZ 43 ls [.int (lH f g i (nI (g 0 + k12)) (-1))]) rfl ?_
          refine lv_topi (fun x8 ex8 => ?_)
          refine lv_istore (lv' := [(5, .int x8), (4, .int x6), (3, .int (nI (g 0 + k12))), (2, .int z12_2), (0, .ref (A 0)), (1, .int i)]) hx hb dX7_raiseFor_43 hl (by decide) rfl (fun ls hl => ?_)
          refine lv_iload hx hb dX7_raiseFor_45 (lv_at hl 1 rfl) ?_
          refine lv_iload hx hb dX7_raiseFor_47 (lv_at hl 0 rfl) ?_
          refine lv_icmp_ge (tgt := 69) hx hb dX7_raiseFor_49 (by decide) (fun c9 => ?_) (fun c9 => ?_)
          · have d9 := Int32.not_lt.mpr c9
            refine lv_iinc (v := nI ((g 0 + k12) + 1)) (lv' := [(3, .int (nI ((g 0 + k12) + 1))), (5, .int x8), (4, .int x6), (2, .int z12_2), (0, .ref (A 0)), (1, .int i)]) hx hb dX7_raiseFor_69 hl (k := 2) rfl (nI_inc _) (by decide) rfl (fun ls hl => ?_)
            refine lv_goto (tgt := 12) hx hb dX7_raiseFor_72 (by decide) ?_
            exact ih12 (k12 + 1) (by omega) _ (by subst ex8; subst ex6; subst ez12_2; first | rfl | (simp only [fl, isUn, rFo, rFL, k1, c5, d5, c7, c9, d9, ne_eq, not_true_eq_false, not_false_eq_true, and_true, true_and, and_false, false_and, or_true, true_or, or_false, false_or, and_self, or_self, decide_eq_true_eq, ↓reduceIte]; done) | (simp [fl, isUn, rFo, rFL, k1, c5, d5, c7, c9, d9]; done) | (simp only [fl, isUn, rFo, rFL, k1, c5, d5, c7, c9, d9, ne_eq, not_true_eq_false, not_false_eq_true, and_true, true_and, and_false, false_and, or_true, true_or, or_false, false_or, and_self, or_self, decide_eq_true_eq, ↓reduceIte])) ls (lv_sub hl [0, 3, 4, 5] rfl)
          · have d9 := Int32.not_le.mp c9
            refine lv_iload_n hx hb dX7_raiseFor_52 rfl (lv_at hl 3 rfl) ?_
            refine lv_iload hx hb dX7_raiseFor_53 (lv_at hl 0 rfl) ?_
            refine lv_aload_n hx hb dX7_raiseFor_55 rfl (lv_at hl 4 rfl) ?_
            refine rd_get (own := RX7) (x := .ref (A 4)) S hG.1 iX7 (rP_0 hR) 3 rfl (by decide) w1 rfl dX7_raiseFor_56 ?_
            refine lv_iload_n hx hb dX7_raiseFor_59 rfl (lv_at hl 5 rfl) ?_
            refine lv_iload_n hx hb dX7_raiseFor_60 rfl (lv_at hl 2 rfl) ?_
            refine rd_V (As := [.int i, .int (nI (g 0 + k12))]) (rest := [.int x8, .int z12_2]) (v := some (.int (hOn f i (nI (g 0 + k12)) (g 4)))) S hG (c_X1_heightOn l G A f g H hR i (nI (g 0 + k12))) gX7_raiseFor_X1_heightOn rfl ⟨rfl, rfl⟩ nmX1_heightOn ⟨Nat.le_of_ble_eq_true rfl, Nat.le_of_ble_eq_true rfl⟩ (rd_rcv hG.1 (rP_4 hR) rfl) rfl hl.1 rfl (Nat.le_of_ble_eq_true rfl) ⟨Nat.zero_le _, Nat.zero_le _⟩ dX7_raiseFor_61 ?_
            refine W.eq (g2 := F0 mZ 64 ls [.int (hOn f i (nI (g 0 + k12)) (g 4)), .int x8, .int z12_2]) rfl ?_
            refine lv_isub hx hb dX7_raiseFor_64 ?_
            refine rd_max S hl.1 m_max_98 ⟨Nat.le_of_ble_eq_true rfl, Nat.le_of_ble_eq_true rfl⟩ (Nat.le_of_ble_eq_true rfl) ⟨Nat.zero_le _, Nat.zero_le _⟩ dX7_raiseFor_65 ?_
            refine W.eq (g2 := F0 mZ 68 ls [.int (imax z12_2 (x8 - (hOn f i (nI (g 0 + k12)) (g 4))))]) rfl ?_
            refine lv_topi (fun x10 ex10 => ?_)
            refine lv_istore_n (lv' := [(2, .int x10), (5, .int x8), (4, .int x6), (3, .int (nI (g 0 + k12))), (0, .ref (A 0)), (1, .int i)]) hx hb dX7_raiseFor_68 rfl hl (by decide) rfl (fun ls hl => ?_)
            refine lv_iinc (v := nI ((g 0 + k12) + 1)) (lv' := [(3, .int (nI ((g 0 + k12) + 1))), (2, .int x10), (5, .int x8), (4, .int x6), (0, .ref (A 0)), (1, .int i)]) hx hb dX7_raiseFor_69 hl (k := 3) rfl (nI_inc _) (by decide) rfl (fun ls hl => ?_)
            refine lv_goto (tgt := 12) hx hb dX7_raiseFor_72 (by decide) ?_
            exact ih12 (k12 + 1) (by omega) _ (by subst ex10; subst ex8; subst ex6; subst ez12_2; first | rfl | (simp only [fl, isUn, rFo, rFL, k1, c5, d5, c7, c9, d9, ne_eq, not_true_eq_false, not_false_eq_true, and_true, true_and, and_false, false_and, or_true, true_or, or_false, false_or, and_self, or_self, decide_eq_true_eq, ↓reduceIte]; done) | (simp [fl, isUn, rFo, rFL, k1, c5, d5, c7, c9, d9]; done) | (simp only [fl, isUn, rFo, rFL, k1, c5, d5, c7, c9, d9, ne_eq, not_true_eq_false, not_false_eq_true, and_true, true_and, and_false, false_and, or_true, true_or, or_false, false_or, and_self, or_self, decide_eq_true_eq, ↓reduceIte])) ls (lv_sub hl [0, 1, 4, 5] rfl)
        · refine lv_goto (tgt := 69) hx hb dX7_raiseFor_33 (by decide) ?_
          refine lv_iinc (v := nI ((g 0 + k12) + 1)) (lv' := [(3, .int (nI ((g 0 + k12) + 1))), (4, .int x6), (2, .int z12_2), (0, .ref (A 0)), (1, .int i)]) hx hb dX7_raiseFor_69 hl (k := 1) rfl (nI_inc _) (by decide) rfl (fun ls hl => ?_)
          refine lv_goto (tgt := 12) hx hb dX7_raiseFor_72 (by decide) ?_
          exact ih12 (k12 + 1) (by omega) _ (by subst ex6; subst ez12_2; first | rfl | (simp only [fl, isUn, rFo, rFL, k1, c5, d5, c7, ne_eq, not_true_eq_false, not_false_eq_true, and_true, true_and, and_false, false_and, or_true, true_or, or_false, false_or, and_self, or_self, decide_eq_true_eq, ↓reduceIte]; done) | (simp [fl, isUn, rFo, rFL, k1, c5, d5, c7]; done) | (simp only [fl, isUn, rFo, rFL, k1, c5, d5, c7, ne_eq, not_true_eq_false, not_false_eq_true, and_true, true_and, and_false, false_and, or_true, true_or, or_false, false_or, and_self, or_self, decide_eq_true_eq, ↓reduceIte])) ls (lv_sub hl [0, 2, 3, 4] rfl)
  exact loop12 (400 - g 0) 0 (by omega) _ (by first | rfl | (simp only [fl, isUn, rFo, rFL, k1, ne_eq, not_true_eq_false, not_false_eq_true, and_true, true_and, and_false, false_and, or_true, true_or, or_false, false_or, and_self, or_self, decide_eq_true_eq, ↓reduceIte]; done) | (simp [fl, isUn, rFo, rFL, k1]; done) | (simp only [fl, isUn, rFo, rFL, k1, ne_eq, not_true_eq_false, not_false_eq_true, and_true, true_and, and_false, false_and, or_true, true_or, or_false, false_or, and_self, or_self, decide_eq_true_eq, ↓reduceIte])) ls (lv_sub hl [0, 1, 2, 3] rfl)
