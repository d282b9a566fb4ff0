theorem koNL_n {g : Nat → Nat} (hg : ∀ k, g k < 65536) (h : koNL g = none) : g 5 < 16 := by
  have h5 := hg 5
  unfold koNL at h
  by_cases h1 : 16 ≤ nI (g 5)
  · rw [if_pos h1] at h; cases h
  · exact (nI_ltI (b := 16) (by omega) (by decide)).mp (Int32.not_le.mp h1)
set_option maxHeartbeats 1000000 in
set_option maxRecDepth 100000 in
theorem c_X7_obstacle (l : Launch) (G : GT) (hlf : l.stackTraces = false) (A : Nat → Nat) (f : Nat → Nat → Int32) (g : Nat → Nat) (H : Heap) (hR : RP G A f g H) (hA : RA G A) (x y t a b : Int32) : WxV l G A H yX7_obstacle wsX7_obstacle { frames := 9, cells := 1, slots := 6, locals := 147 } [.ref (A 0), .int x, .int y, .int t, .int a, .int b] (kOr (koPl x y a b) (kOr (koArg t 0 999) (if 12 ≤ nI (g 1) then some xISE else none))) (some (.int (nI (g 1)))) (obAdd f g x y t a b) (gset g 1 (g 1 + 1)) := by
  refine wx_of (cc := cX7_obstacle) (maxL := 6) (ret := (some .int)) (by decide) rfl (Nat.le_of_ble_eq_true rfl) ?_
  intro pZ eZ sZ mZ bZ meZ cZ ls S hr hlk hxt hl hHs hG
  have S : CallFix pZ mZ cZ cX7_obstacle 6 sZ _ wsX7_obstacle RX7 := S
  have hx := S.1
  have hb := S.2.1
  have hown := S.2.2.2.1
  have hts := S.2.2.2.2
  have hl : lv_has ls 6 [(0, .ref (A 0)), (1, .int x), (2, .int y), (3, .int t), (4, .int a), (5, .int b)] := hl
  have w0 := hts (.fieldLink RX7 10 "MinimaRoom" "obstacles" "LMinimaRoom$Obstacles;") (by decide +kernel)
  have iX7 : ∀ w ∈ u_ws RX7 TX7 8, w ∈ wsX7_obstacle := by decide +kernel
  have iX4 : ∀ w ∈ u_ws RX4 TX4 6, w ∈ wsX7_obstacle := by decide +kernel
  have hxk_ISE : Cond.classLink RX7 69 xISE ∈ wsX7_obstacle := by decide +kernel
  have hxi_ISE : Cond.initialized xISE ∈ wsX7_obstacle := by decide +kernel
  have hx1_ISE : ∀ w ∈ (vx_atS RX7 73 xISE xUp).filter goodWord, w ∈ wsX7_obstacle := by decide +kernel
  have hM := MS.rf hR
  have hgb := hR.1
  have hg1 := hgb 1
  refine lv_iload_n hx hb dX7_obstacle_0 rfl (lv_at hl 1 rfl) ?_
  refine lv_iload_n hx hb dX7_obstacle_1 rfl (lv_at hl 2 rfl) ?_
  refine lv_iload hx hb dX7_obstacle_2 (lv_at hl 4 rfl) ?_
  refine lv_iload hx hb dX7_obstacle_4 (lv_at hl 5 rfl) ?_
  refine rx_S (As := [.int x, .int y, .int a, .int b]) (rest := []) (v := none) S hG (c_X7_requirePlace l G hlf H x y a b) gX7_obstacle_X7_requirePlace rfl ⟨rfl, rfl⟩ nmX7_requirePlace ⟨Nat.le_of_ble_eq_true rfl, Nat.le_of_ble_eq_true rfl⟩ rfl hl.1 rfl (Nat.le_of_ble_eq_true rfl) ⟨Nat.le_of_ble_eq_true rfl, Nat.le_of_ble_eq_true rfl⟩ dX7_obstacle_6 hxt hlk ⟨Nat.le_of_ble_eq_true rfl, Nat.le_of_ble_eq_true rfl⟩ (fun E t hE hext => ⟨by first | rfl | (simp only [hE, kOr, ne_eq, not_true_eq_false, not_false_eq_true, and_true, true_and, and_false, false_and, or_true, true_or, or_false, false_or, and_self, or_self, decide_eq_true_eq, ↓reduceIte]; done) | (simp only [hE, kOr, ne_eq, not_true_eq_false, not_false_eq_true, and_true, true_and, and_false, false_and, or_true, true_or, or_false, false_or, and_self, or_self, decide_eq_true_eq, ↓reduceIte]; done) | (simp [hE, kOr]; done) | (simp only [hE, kOr, ne_eq, not_true_eq_false, not_false_eq_true, and_true, true_and, and_false, false_and, or_true, true_or, or_false, false_or, and_self, or_self, decide_eq_true_eq, ↓reduceIte]), hext⟩) (fun k1 => ?_)
  refine W.eq (g2 := F0 mZ 9 ls []) rfl ?_
  refine lv_iload_n hx hb dX7_obstacle_9 rfl (lv_at hl 3 rfl) ?_
  refine rx_S (As := [.int t]) (rest := []) (v := none) S hG (c_X7_requireTop l G hlf H t) gX7_obstacle_X7_requireTop rfl ⟨rfl, rfl⟩ nmX7_requireTop ⟨Nat.le_of_ble_eq_true rfl, Nat.le_of_ble_eq_true rfl⟩ rfl hl.1 rfl (Nat.le_of_ble_eq_true rfl) ⟨Nat.le_of_ble_eq_true rfl, Nat.le_of_ble_eq_true rfl⟩ dX7_obstacle_10 hxt hlk ⟨Nat.le_of_ble_eq_true rfl, Nat.le_of_ble_eq_true rfl⟩ (fun E t hE hext => ⟨by first | rfl | (simp only [k1, hE, kOr, ne_eq, not_true_eq_false, not_false_eq_true, and_true, true_and, and_false, false_and, or_true, true_or, or_false, false_or, and_self, or_self, decide_eq_true_eq, ↓reduceIte]; done) | (simp only [k1, hE, kOr, ne_eq, not_true_eq_false, not_false_eq_true, and_true, true_and, and_false, false_and, or_true, true_or, or_false, false_or, and_self, or_self, decide_eq_true_eq, ↓reduceIte]; done) | (simp [k1, hE, kOr]; done) | (simp only [k1, hE, kOr, ne_eq, not_true_eq_false, not_false_eq_true, and_true, true_and, and_false, false_and, or_true, true_or, or_false, false_or, and_self, or_self, decide_eq_true_eq, ↓reduceIte]), hext⟩) (fun k2 => ?_)
  refine W.eq (g2 := F0 mZ 13 ls []) rfl ?_
  refine lv_aload_n hx hb dX7_obstacle_13 rfl (lv_at hl 0 rfl) ?_
  refine rd_get (own := RX7) (x := .ref (A 1)) S hG.1 iX7 (rP_0 hR) 0 rfl (by decide) w0 rfl dX7_obstacle_14 ?_
  refine rd_getN (own := RX7) (x := .int (nI (g 1))) S hG.1 iX4 (rP_1 hR) 5 rfl (by decide) nest_66 rfl dX7_obstacle_17 ?_
  refine lv_bipush (v := 12) hx hb dX7_obstacle_20 (by decide) ?_
  refine lv_icmp_lt (tgt := 35) hx hb dX7_obstacle_22 (by decide) (fun c3 => ?_) (fun c3 => ?_)
  · have d3 := Int32.not_le.mpr c3
    refine lv_aload_n hx hb dX7_obstacle_35 rfl (lv_at hl 0 rfl) ?_
    have hc1 : g 1 < 12 := (nI_ltI (b := 12) (by omega) (by decide)).mp c3
    refine rd_get (own := RX7) (x := .ref (A 1)) S hG.1 iX7 (rP_0 hR) 0 rfl (by decide) w0 rfl dX7_obstacle_36 ?_
    refine lv_iload_n hx hb dX7_obstacle_39 rfl (lv_at hl 1 rfl) ?_
    refine lv_iload_n hx hb dX7_obstacle_40 rfl (lv_at hl 2 rfl) ?_
    refine lv_iload_n hx hb dX7_obstacle_41 rfl (lv_at hl 3 rfl) ?_
    refine lv_iload hx hb dX7_obstacle_42 (lv_at hl 4 rfl) ?_
    refine lv_iload hx hb dX7_obstacle_44 (lv_at hl 5 rfl) ?_
    refine wr_V (As := [.int x, .int y, .int t, .int a, .int b]) (rest := []) (v := some (.int (nI (g 1)))) S hA hG hM (c_X4_add l G A f g H hR hA x y t a b (by omega)) gX7_obstacle_X4_add rfl ⟨rfl, rfl⟩ nmX4_add ⟨Nat.le_of_ble_eq_true rfl, Nat.le_of_ble_eq_true rfl⟩ (rd_rcv hG.1 (rP_1 hR) rfl) rfl hl.1 rfl (Nat.le_of_ble_eq_true rfl) ⟨Nat.zero_le _, Nat.zero_le _⟩ dX7_obstacle_46 (fun H4 locs4 hM4 hG4 => ?_)
    have hR4 := hM4.1
    refine W.eq (g2 := F0 mZ 49 ls [.int (nI (g 1))]) rfl ?_
    exact wx_iret S hr hlk dX7_obstacle_49 (by first | rfl | (simp only [k1, k2, kOr, ne_eq, not_true_eq_false, not_false_eq_true, and_true, true_and, and_false, false_and, or_true, true_or, or_false, false_or, and_self, or_self, decide_eq_true_eq, ↓reduceIte]; done) | (simp only [k1, k2, c3, d3, kOr, ne_eq, not_true_eq_false, not_false_eq_true, and_true, true_and, and_false, false_and, or_true, true_or, or_false, false_or, and_self, or_self, decide_eq_true_eq, ↓reduceIte]; done) | (simp [k1, k2, c3, d3, kOr]; done) | (simp only [k1, k2, c3, d3, kOr, ne_eq, not_true_eq_false, not_false_eq_true, and_true, true_and, and_false, false_and, or_true, true_or, or_false, false_or, and_self, or_self, decide_eq_true_eq, ↓reduceIte])) hM4 (congrArg (fun z => some (Value.int z)) (by first | rfl | (simp only [k1, k2, c3, d3, ne_eq, not_true_eq_false, not_false_eq_true, and_true, true_and, and_false, false_and, or_true, true_or, or_false, false_or, and_self, or_self, decide_eq_true_eq, ↓reduceIte]; done) | (simp [k1, k2, c3, d3]; done) | (simp only [k1, k2, c3, d3, ne_eq, not_true_eq_false, not_false_eq_true, and_true, true_and, and_false, false_and, or_true, true_or, or_false, false_or, and_self, or_self, decide_eq_true_eq, ↓reduceIte])))
  · have d3 := Int32.not_lt.mp c3
    exact rx_thS (text := "there were 12 obstacles") (rest := []) S hHs hlf hG hl.1 hxt hlk hxk_ISE hxi_ISE rfl (by decide) hx1_ISE at_ISE ot_ISE dX7_obstacle_25 dX7_obstacle_28 dX7_obstacle_29 dX7_obstacle_31 dX7_obstacle_34 ⟨by decide, Nat.le_of_ble_eq_true rfl, Nat.le_of_ble_eq_true rfl, Nat.le_of_ble_eq_true rfl⟩ ⟨Nat.le_of_ble_eq_true rfl, Nat.le_of_ble_eq_true rfl⟩ (fun t hext => ⟨by first | rfl | (simp only [k1, k2, kOr, ne_eq, not_true_eq_false, not_false_eq_true, and_true, true_and, and_false, false_and, or_true, true_or, or_false, false_or, and_self, or_self, decide_eq_true_eq, ↓reduceIte]; done) | (simp only [k1, k2, c3, d3, kOr, ne_eq, not_true_eq_false, not_false_eq_true, and_true, true_and, and_false, false_and, or_true, true_or, or_false, false_or, and_self, or_self, decide_eq_true_eq, ↓reduceIte]; done) | (simp [k1, k2, c3, d3, kOr]; done) | (simp only [k1, k2, c3, d3, kOr, ne_eq, not_true_eq_false, not_false_eq_true, and_true, true_and, and_false, false_and, or_true, true_or, or_false, false_or, and_self, or_self, decide_eq_true_eq, ↓reduceIte]), hext⟩)
set_option maxHeartbeats 1000000 in
set_option maxRecDepth 100000 in
theorem c_X7_check (l : Launch) (G : GT) (hlf : l.stackTraces = false) (A : Nat → Nat) (f : Nat → Nat → Int32) (g : Nat → Nat) (H : Heap) (hR : RP G A f g H) (hA : RA G A) (i d : Int32) : WxV l G A H yX7_check wsX7_check { frames := 7, cells := 1, slots := 6, locals := 104 } [.ref (A 0), .int i, .int d] (kOr (koIx i 3) (koArg d 0 200)) (some (.int (imin (nI (g 0) + d) 399))) (rowPut f 16 i (imin (nI (g 0) + d) 399)) (g) := by
  refine wx_of (cc := cX7_check) (maxL := 4) (ret := (some .int)) (by decide) rfl (Nat.le_of_ble_eq_true rfl) ?_
  intro pZ eZ sZ mZ bZ meZ cZ ls S hr hlk hxt hl hHs hG
  have S : CallFix pZ mZ cZ cX7_check 4 sZ _ wsX7_check RX7 := S
  have hx := S.1
  have hb := S.2.1
  have hown := S.2.2.2.1
  have hts := S.2.2.2.2
  have hl : lv_has ls 4 [(0, .ref (A 0)), (1, .int i), (2, .int d)] := hl
  have w0 := hts (.fieldLink RX7 51 "MinimaRoom" "now" "I") (by decide +kernel)
  have w1 := hts (.fieldLink RX7 19 "MinimaRoom" "aids" "LMinimaRoom$Aids;") (by decide +kernel)
  have iX7 : ∀ w ∈ u_ws RX7 TX7 8, w ∈ wsX7_check := by decide +kernel
  have iX0 : ∀ w ∈ u_ws RX0 TX0 2, w ∈ wsX7_check := by decide +kernel
  have m_min_118 : [.methodLink RX7 118 Lib.Math.min.name, .static Lib.Math.min.name, .initialized "java/lang/Math", .code Lib.Math.min.name Lib.Math.min.code 2 (some .int)] ⊆ wsX7_check := by decide +kernel
  have hM := MS.rf hR
  have hgb := hR.1
  refine lv_iload_n hx hb dX7_check_0 rfl (lv_at hl 1 rfl) ?_
  refine rx_S (As := [.int i]) (rest := []) (v := none) S hG (c_X7_requireAid l G hlf H i) gX7_check_X7_requireAid rfl ⟨rfl, rfl⟩ nmX7_requireAid ⟨Nat.le_of_ble_eq_true rfl, Nat.le_of_ble_eq_true rfl⟩ rfl hl.1 rfl (Nat.le_of_ble_eq_true rfl) ⟨Nat.le_of_ble_eq_true rfl, Nat.le_of_ble_eq_true rfl⟩ dX7_check_1 hxt hlk ⟨Nat.le_of_ble_eq_true rfl, Nat.le_of_ble_eq_true rfl⟩ (fun E t hE hext => ⟨by first | rfl | (simp only [hE, kOr, ne_eq, not_true_eq_false, not_false_eq_true, and_true, true_and, and_false, false_and, or_true, true_or, or_false, false_or, and_self, or_self, decide_eq_true_eq, ↓reduceIte]; done) | (simp only [hE, kOr, ne_eq, not_true_eq_false, not_false_eq_true, and_true, true_and, and_false, false_and, or_true, true_or, or_false, false_or, and_self, or_self, decide_eq_true_eq, ↓reduceIte]; done) | (simp [hE, kOr]; done) | (simp only [hE, kOr, ne_eq, not_true_eq_false, not_false_eq_true, and_true, true_and, and_false, false_and, or_true, true_or, or_false, false_or, and_self, or_self, decide_eq_true_eq, ↓reduceIte]), hext⟩) (fun k1 => ?_)
  refine W.eq (g2 := F0 mZ 4 ls []) rfl ?_
  refine lv_iload_n hx hb dX7_check_4 rfl (lv_at hl 2 rfl) ?_
  refine lv_iconst (v := 0) hx hb dX7_check_5 (by decide) ?_
  refine lv_sipush (v := 200) hx hb dX7_check_6 (by decide) ?_
  refine rx_S (As := [.int d, .int 0, .int 200]) (rest := []) (v := none) S hG (c_X7_requireArgument l G hlf H d 0 200) gX7_check_X7_requireArgument rfl ⟨rfl, rfl⟩ nmX7_requireArgument ⟨Nat.le_of_ble_eq_true rfl, Nat.le_of_ble_eq_true rfl⟩ rfl hl.1 rfl (Nat.le_of_ble_eq_true rfl) ⟨Nat.le_of_ble_eq_true rfl, Nat.le_of_ble_eq_true rfl⟩ dX7_check_9 hxt hlk ⟨Nat.le_of_ble_eq_true rfl, Nat.le_of_ble_eq_true rfl⟩ (fun E t hE hext => ⟨by first | rfl | (simp only [k1, hE, kOr, ne_eq, not_true_eq_false, not_false_eq_true, and_true, true_and, and_false, false_and, or_true, true_or, or_false, false_or, and_self, or_self, decide_eq_true_eq, ↓reduceIte]; done) | (simp only [k1, hE, kOr, ne_eq, not_true_eq_false, not_false_eq_true, and_true, true_and, and_false, false_and, or_true, true_or, or_false, false_or, and_self, or_self, decide_eq_true_eq, ↓reduceIte]; done) | (simp [k1, hE, kOr]; done) | (simp only [k1, hE, kOr, ne_eq, not_true_eq_false, not_false_eq_true, and_true, true_and, and_false, false_and, or_true, true_or, or_false, false_or, and_self, or_self, decide_eq_true_eq, ↓reduceIte]), hext⟩) (fun k2 => ?_)
  refine W.eq (g2 := F0 mZ 12 ls []) rfl ?_
  refine lv_aload_n hx hb dX7_check_12 rfl (lv_at hl 0 rfl) ?_
  refine rd_get (own := RX7) (x := .int (nI (g 0))) S hG.1 iX7 (rP_0 hR) 6 rfl (by decide) w0 rfl dX7_check_13 ?_
  refine lv_iload_n hx hb dX7_check_16 rfl (lv_at hl 2 rfl) ?_
  refine lv_iadd hx hb dX7_check_17 ?_
  refine lv_sipush (v := 399) hx hb dX7_check_18 (by decide) ?_
  refine rd_min S hl.1 m_min_118 ⟨Nat.le_of_ble_eq_true rfl, Nat.le_of_ble_eq_true rfl⟩ (Nat.le_of_ble_eq_true rfl) ⟨Nat.zero_le _, Nat.zero_le _⟩ dX7_check_21 ?_
  refine W.eq (g2 := F0 mZ 24 ls [.int (imin ((nI (g 0)) + d) 399)]) rfl ?_
  refine lv_topi (fun x3 ex3 => ?_)
  refine lv_istore_n (lv' := [(3, .int x3), (0, .ref (A 0)), (1, .int i), (2, .int d)]) hx hb dX7_check_24 rfl hl (by decide) rfl (fun ls hl => ?_)
  refine lv_aload_n hx hb dX7_check_25 rfl (lv_at hl 1 rfl) ?_
  refine rd_get (own := RX7) (x := .ref (A 2)) S hG.1 iX7 (rP_0 hR) 1 rfl (by decide) w1 rfl dX7_check_26 ?_
  refine rd_getN (own := RX7) (x := .ref (A 16)) S hG.1 iX0 (rP_2 hR) 1 rfl (by decide) nest_121 rfl dX7_check_29 ?_
  refine lv_iload_n hx hb dX7_check_32 rfl (lv_at hl 2 rfl) ?_
  refine lv_iload_n hx hb dX7_check_33 rfl (lv_at hl 0 rfl) ?_
  refine wr_V (As := [.int i, .int x3]) (rest := []) (v := none) S hA hG hM (c_X6_put l G A f g H hR hA 16 (by decide) i x3) gX7_check_X6_put rfl ⟨rfl, rfl⟩ nmX6_put ⟨Nat.le_of_ble_eq_true rfl, Nat.le_of_ble_eq_true rfl⟩ (rd_rcv hG.1 (rP_16 hR) rfl) rfl hl.1 rfl (Nat.le_of_ble_eq_true rfl) ⟨Nat.zero_le _, Nat.zero_le _⟩ dX7_check_34 (fun H4 locs4 hM4 hG4 => ?_)
  have hR4 := hM4.1
  refine W.eq (g2 := F0 mZ 37 ls []) rfl ?_
  refine lv_iload_n hx hb dX7_check_37 rfl (lv_at hl 0 rfl) ?_
  exact wx_iret S hr hlk dX7_check_38 (by subst ex3; first | rfl | (simp only [k1, k2, kOr, ne_eq, not_true_eq_false, not_false_eq_true, and_true, true_and, and_false, false_and, or_true, true_or, or_false, false_or, and_self, or_self, decide_eq_true_eq, ↓reduceIte]; done) | (simp only [k1, k2, kOr, ne_eq, not_true_eq_false, not_false_eq_true, and_true, true_and, and_false, false_and, or_true, true_or, or_false, false_or, and_self, or_self, decide_eq_true_eq, ↓reduceIte]; done) | (simp [k1, k2, kOr]; done) | (simp only [k1, k2, kOr, ne_eq, not_true_eq_false, not_false_eq_true, and_true, true_and, and_false, false_and, or_true, true_or, or_false, false_or, and_self, or_self, decide_eq_true_eq, ↓reduceIte])) (by subst ex3; exact hM4) (congrArg (fun z => some (Value.int z)) (by subst ex3; first | rfl | (simp only [k1, k2, ne_eq, not_true_eq_false, not_false_eq_true, and_true, true_and, and_false, false_and, or_true, true_or, or_false, false_or, and_self, or_self, decide_eq_true_eq, ↓reduceIte]; done) | (simp [k1, k2]; done) | (simp only [k1, k2, ne_eq, not_true_eq_false, not_false_eq_true, and_true, true_and, and_false, false_and, or_true, true_or, or_false, false_or, and_self, or_self, decide_eq_true_eq, ↓reduceIte])))
set_option maxHeartbeats 1000000 in
set_option maxRecDepth 100000 in
theorem c_X7_procedure (l : Launch) (G : GT) (hlf : l.stackTraces = false) (A : Nat → Nat) (f : Nat → Nat → Int32) (g : Nat → Nat) (H : Heap) (hR : RP G A f g H) (hA : RA G A) (i v : Int32) : WxV l G A H yX7_procedure wsX7_procedure { frames := 7, cells := 1, slots := 6, locals := 104 } [.ref (A 0), .int i, .int v] (kOr (koIx i 3) (kOr (koArg v 10 40) (if 4 ≤ nI (g 3) then some xISE else none))) (some (.int (nI (g 3)))) (prAdd f g i v) (gset g 3 (g 3 + 1)) := by
  refine wx_of (cc := cX7_procedure) (maxL := 3) (ret := (some .int)) (by decide) rfl (Nat.le_of_ble_eq_true rfl) ?_
  intro pZ eZ sZ mZ bZ meZ cZ ls S hr hlk hxt hl hHs hG
  have S : CallFix pZ mZ cZ cX7_procedure 3 sZ _ wsX7_procedure RX7 := S
  have hx := S.1
  have hb := S.2.1
  have hown := S.2.2.2.1
  have hts := S.2.2.2.2
  have hl : lv_has ls 3 [(0, .ref (A 0)), (1, .int i), (2, .int v)] := hl
  have w0 := hts (.fieldLink RX7 26 "MinimaRoom" "procedures" "LMinimaRoom$Procedures;") (by decide +kernel)
  have iX7 : ∀ w ∈ u_ws RX7 TX7 8, w ∈ wsX7_procedure := by decide +kernel
  have iX5 : ∀ w ∈ u_ws RX5 TX5 3, w ∈ wsX7_procedure := by decide +kernel
  have hxk_ISE : Cond.classLink RX7 69 xISE ∈ wsX7_procedure := by decide +kernel
  have hxi_ISE : Cond.initialized xISE ∈ wsX7_procedure := by decide +kernel
  have hx1_ISE : ∀ w ∈ (vx_atS RX7 73 xISE xUp).filter goodWord, w ∈ wsX7_procedure := by decide +kernel
  have hM := MS.rf hR
  have hgb := hR.1
  have hg3 := hgb 3
  refine lv_iload_n hx hb dX7_procedure_0 rfl (lv_at hl 1 rfl) ?_
  refine rx_S (As := [.int i]) (rest := []) (v := none) S hG (c_X7_requireAid l G hlf H i) gX7_procedure_X7_requireAid rfl ⟨rfl, rfl⟩ nmX7_requireAid ⟨Nat.le_of_ble_eq_true rfl, Nat.le_of_ble_eq_true rfl⟩ rfl hl.1 rfl (Nat.le_of_ble_eq_true rfl) ⟨Nat.le_of_ble_eq_true rfl, Nat.le_of_ble_eq_true rfl⟩ dX7_procedure_1 hxt hlk ⟨Nat.le_of_ble_eq_true rfl, Nat.le_of_ble_eq_true rfl⟩ (fun E t hE hext => ⟨by first | rfl | (simp only [hE, kOr, ne_eq, not_true_eq_false, not_false_eq_true, and_true, true_and, and_false, false_and, or_true, true_or, or_false, false_or, and_self, or_self, decide_eq_true_eq, ↓reduceIte]; done) | (simp only [hE, kOr, ne_eq, not_true_eq_false, not_false_eq_true, and_true, true_and, and_false, false_and, or_true, true_or, or_false, false_or, and_self, or_self, decide_eq_true_eq, ↓reduceIte]; done) | (simp [hE, kOr]; done) | (simp only [hE, kOr, ne_eq, not_true_eq_false, not_false_eq_true, and_true, true_and, and_false, false_and, or_true, true_or, or_false, false_or, and_self, or_self, decide_eq_true_eq, ↓reduceIte]), hext⟩) (fun k1 => ?_)
  refine W.eq (g2 := F0 mZ 4 ls []) rfl ?_
  refine lv_iload_n hx hb dX7_procedure_4 rfl (lv_at hl 2 rfl) ?_
  refine lv_bipush (v := 10) hx hb dX7_procedure_5 (by decide) ?_
  refine lv_bipush (v := 40) hx hb dX7_procedure_7 (by decide) ?_
  refine rx_S (As := [.int v, .int 10, .int 40]) (rest := []) (v := none) S hG (c_X7_requireArgument l G hlf H v 10 40) gX7_procedure_X7_requireArgument rfl ⟨rfl, rfl⟩ nmX7_requireArgument ⟨Nat.le_of_ble_eq_true rfl, Nat.le_of_ble_eq_true rfl⟩ rfl hl.1 rfl (Nat.le_of_ble_eq_true rfl) ⟨Nat.le_of_ble_eq_true rfl, Nat.le_of_ble_eq_true rfl⟩ dX7_procedure_9 hxt hlk ⟨Nat.le_of_ble_eq_true rfl, Nat.le_of_ble_eq_true rfl⟩ (fun E t hE hext => ⟨by first | rfl | (simp only [k1, hE, kOr, ne_eq, not_true_eq_false, not_false_eq_true, and_true, true_and, and_false, false_and, or_true, true_or, or_false, false_or, and_self, or_self, decide_eq_true_eq, ↓reduceIte]; done) | (simp only [k1, hE, kOr, ne_eq, not_true_eq_false, not_false_eq_true, and_true, true_and, and_false, false_and, or_true, true_or, or_false, false_or, and_self, or_self, decide_eq_true_eq, ↓reduceIte]; done) | (simp [k1, hE, kOr]; done) | (simp only [k1, hE, kOr, ne_eq, not_true_eq_false, not_false_eq_true, and_true, true_and, and_false, false_and, or_true, true_or, or_false, false_or, and_self, or_self, decide_eq_true_eq, ↓reduceIte]), hext⟩) (fun k2 => ?_)
  refine W.eq (g2 := F0 mZ 12 ls []) rfl ?_
  refine lv_aload_n hx hb dX7_procedure_12 rfl (lv_at hl 0 rfl) ?_
  refine rd_get (own := RX7) (x := .ref (A 3)) S hG.1 iX7 (rP_0 hR) 2 rfl (by decide) w0 rfl dX7_procedure_13 ?_
  refine rd_getN (own := RX7) (x := .int (nI (g 3))) S hG.1 iX5 (rP_3 hR) 2 rfl (by decide) nest_124 rfl dX7_procedure_16 ?_
  refine lv_iconst (v := 4) hx hb dX7_procedure_19 (by decide) ?_
  refine lv_icmp_lt (tgt := 33) hx hb dX7_procedure_20 (by decide) (fun c3 => ?_) (fun c3 => ?_)
  · have d3 := Int32.not_le.mpr c3
    refine lv_aload_n hx hb dX7_procedure_33 rfl (lv_at hl 0 rfl) ?_
    have hc3 : g 3 < 4 := (nI_ltI (b := 4) (by omega) (by decide)).mp c3
    refine rd_get (own := RX7) (x := .ref (A 3)) S hG.1 iX7 (rP_0 hR) 2 rfl (by decide) w0 rfl dX7_procedure_34 ?_
    refine lv_iload_n hx hb dX7_procedure_37 rfl (lv_at hl 1 rfl) ?_
    refine lv_iload_n hx hb dX7_procedure_38 rfl (lv_at hl 2 rfl) ?_
    refine wr_V (As := [.int i, .int v]) (rest := []) (v := some (.int (nI (g 3)))) S hA hG hM (c_X5_add l G A f g H hR hA i v (by omega)) gX7_procedure_X5_add rfl ⟨rfl, rfl⟩ nmX5_add ⟨Nat.le_of_ble_eq_true rfl, Nat.le_of_ble_eq_true rfl⟩ (rd_rcv hG.1 (rP_3 hR) rfl) rfl hl.1 rfl (Nat.le_of_ble_eq_true rfl) ⟨Nat.zero_le _, Nat.zero_le _⟩ dX7_procedure_39 (fun H4 locs4 hM4 hG4 => ?_)
    have hR4 := hM4.1
    refine W.eq (g2 := F0 mZ 42 ls [.int (nI (g 3))]) rfl ?_
    exact wx_iret S hr hlk dX7_procedure_42 (by first | rfl | (simp only [k1, k2, kOr, ne_eq, not_true_eq_false, not_false_eq_true, and_true, true_and, and_false, false_and, or_true, true_or, or_false, false_or, and_self, or_self, decide_eq_true_eq, ↓reduceIte]; done) | (simp only [k1, k2, c3, d3, kOr, ne_eq, not_true_eq_false, not_false_eq_true, and_true, true_and, and_false, false_and, or_true, true_or, or_false, false_or, and_self, or_self, decide_eq_true_eq, ↓reduceIte]; done) | (simp [k1, k2, c3, d3, kOr]; done) | (simp only [k1, k2, c3, d3, kOr, ne_eq, not_true_eq_false, not_false_eq_true, and_true, true_and, and_false, false_and, or_true, true_or, or_false, false_or, and_self, or_self, decide_eq_true_eq, ↓reduceIte])) hM4 (congrArg (fun z => some (Value.int z)) (by first | rfl | (simp only [k1, k2, c3, d3, ne_eq, not_true_eq_false, not_false_eq_true, and_true, true_and, and_false, false_and, or_true, true_or, or_false, false_or, and_self, or_self, decide_eq_true_eq, ↓reduceIte]; done) | (simp [k1, k2, c3, d3]; done) | (simp only [k1, k2, c3, d3, ne_eq, not_true_eq_false, not_false_eq_true, and_true, true_and, and_false, false_and, or_true, true_or, or_false, false_or, and_self, or_self, decide_eq_true_eq, ↓reduceIte])))
  · have d3 := Int32.not_lt.mp c3
    exact rx_thS (text := "there were 4 procedures") (rest := []) S hHs hlf hG hl.1 hxt hlk hxk_ISE hxi_ISE rfl (by decide) hx1_ISE at_ISE ot_ISE dX7_procedure_23 dX7_procedure_26 dX7_procedure_27 dX7_procedure_29 dX7_procedure_32 ⟨by decide, Nat.le_of_ble_eq_true rfl, Nat.le_of_ble_eq_true rfl, Nat.le_of_ble_eq_true rfl⟩ ⟨Nat.le_of_ble_eq_true rfl, Nat.le_of_ble_eq_true rfl⟩ (fun t hext => ⟨by first | rfl | (simp only [k1, k2, kOr, ne_eq, not_true_eq_false, not_false_eq_true, and_true, true_and, and_false, false_and, or_true, true_or, or_false, false_or, and_self, or_self, decide_eq_true_eq, ↓reduceIte]; done) | (simp only [k1, k2, c3, d3, kOr, ne_eq, not_true_eq_false, not_false_eq_true, and_true, true_and, and_false, false_and, or_true, true_or, or_false, false_or, and_self, or_self, decide_eq_true_eq, ↓reduceIte]; done) | (simp [k1, k2, c3, d3, kOr]; done) | (simp only [k1, k2, c3, d3, kOr, ne_eq, not_true_eq_false, not_false_eq_true, and_true, true_and, and_false, false_and, or_true, true_or, or_false, false_or, and_self, or_self, decide_eq_true_eq, ↓reduceIte]), hext⟩)
set_option maxHeartbeats 1000000 in
set_option maxRecDepth 100000 in
theorem c_X7_raise (l : Launch) (G : GT) (hlf : l.stackTraces = false) (A : Nat → Nat) (f : Nat → Nat → Int32) (g : Nat → Nat) (H : Heap) (hR : RP G A f g H) (hA : RA G A) (i v a b : Int32) : WxV l G A H yX7_raise wsX7_raise { frames := 8, cells := 1, slots := 6, locals := 126 } [.ref (A 0), .int i, .int v, .int a, .int b] (kOr (koIx i (g 3)) (kOr (koArg v 1 500) (kOr (koTime g a b) (koNL g)))) (some (.int (nI (g 5)))) (noAdd f g 0 i v a b) (gset g 5 (g 5 + 1)) := by
  refine wx_of (cc := cX7_raise) (maxL := 5) (ret := (some .int)) (by decide) rfl (Nat.le_of_ble_eq_true rfl) ?_
  intro pZ eZ sZ mZ bZ meZ cZ ls S hr hlk hxt hl hHs hG
  have S : CallFix pZ mZ cZ cX7_raise 5 sZ _ wsX7_raise RX7 := S
  have hx := S.1
  have hb := S.2.1
  have hown := S.2.2.2.1
  have hts := S.2.2.2.2
  have hl : lv_has ls 5 [(0, .ref (A 0)), (1, .int i), (2, .int v), (3, .int a), (4, .int b)] := hl
  have w0 := hts (.fieldLink RX7 40 "MinimaRoom" "notices" "LMinimaRoom$Notices;") (by decide +kernel)
  have iX7 : ∀ w ∈ u_ws RX7 TX7 8, w ∈ wsX7_raise := by decide +kernel
  have hM := MS.rf hR
  have hgb := hR.1
  refine lv_aload_n hx hb dX7_raise_0 rfl (lv_at hl 0 rfl) ?_
  refine lv_iload_n hx hb dX7_raise_1 rfl (lv_at hl 1 rfl) ?_
  refine rx_V (As := [.int i]) (rest := []) (v := none) S hG (c_X7_requireProcedure l G hlf A f g H hR i) gX7_raise_X7_requireProcedure rfl ⟨rfl, rfl⟩ nmX7_requireProcedure ⟨Nat.le_of_ble_eq_true rfl, Nat.le_of_ble_eq_true rfl⟩ (rd_rcv hG.1 (rP_0 hR) rfl) rfl hl.1 rfl (Nat.le_of_ble_eq_true rfl) ⟨Nat.le_of_ble_eq_true rfl, Nat.le_of_ble_eq_true rfl⟩ dX7_raise_2 hxt hlk ⟨Nat.le_of_ble_eq_true rfl, Nat.le_of_ble_eq_true rfl⟩ (fun E t hE hext => ⟨by first | rfl | (simp only [hE, kOr, ne_eq, not_true_eq_false, not_false_eq_true, and_true, true_and, and_false, false_and, or_true, true_or, or_false, false_or, and_self, or_self, decide_eq_true_eq, ↓reduceIte]; done) | (simp only [hE, kOr, ne_eq, not_true_eq_false, not_false_eq_true, and_true, true_and, and_false, false_and, or_true, true_or, or_false, false_or, and_self, or_self, decide_eq_true_eq, ↓reduceIte]; done) | (simp [hE, kOr]; done) | (simp only [hE, kOr, ne_eq, not_true_eq_false, not_false_eq_true, and_true, true_and, and_false, false_and, or_true, true_or, or_false, false_or, and_self, or_self, decide_eq_true_eq, ↓reduceIte]), hext⟩) (fun k1 => ?_)
  refine W.eq (g2 := F0 mZ 5 ls []) rfl ?_
  refine lv_iload_n hx hb dX7_raise_5 rfl (lv_at hl 2 rfl) ?_
  refine lv_iconst (v := 1) hx hb dX7_raise_6 (by decide) ?_
  refine lv_sipush (v := 500) hx hb dX7_raise_7 (by decide) ?_
  refine rx_S (As := [.int v, .int 1, .int 500]) (rest := []) (v := none) S hG (c_X7_requireArgument l G hlf H v 1 500) gX7_raise_X7_requireArgument rfl ⟨rfl, rfl⟩ nmX7_requireArgument ⟨Nat.le_of_ble_eq_true rfl, Nat.le_of_ble_eq_true rfl⟩ rfl hl.1 rfl (Nat.le_of_ble_eq_true rfl) ⟨Nat.le_of_ble_eq_true rfl, Nat.le_of_ble_eq_true rfl⟩ dX7_raise_10 hxt hlk ⟨Nat.le_of_ble_eq_true rfl, Nat.le_of_ble_eq_true rfl⟩ (fun E t hE hext => ⟨by first | rfl | (simp only [k1, hE, kOr, ne_eq, not_true_eq_false, not_false_eq_true, and_true, true_and, and_false, false_and, or_true, true_or, or_false, false_or, and_self, or_self, decide_eq_true_eq, ↓reduceIte]; done) | (simp only [k1, hE, kOr, ne_eq, not_true_eq_false, not_false_eq_true, and_true, true_and, and_false, false_and, or_true, true_or, or_false, false_or, and_self, or_self, decide_eq_true_eq, ↓reduceIte]; done) | (simp [k1, hE, kOr]; done) | (simp only [k1, hE, kOr, ne_eq, not_true_eq_false, not_false_eq_true, and_true, true_and, and_false, false_and, or_true, true_or, or_false, false_or, and_self, or_self, decide_eq_true_eq, ↓reduceIte]), hext⟩) (fun k2 => ?_)
  refine W.eq (g2 := F0 mZ 13 ls []) rfl ?_
  refine lv_aload_n hx hb dX7_raise_13 rfl (lv_at hl 0 rfl) ?_
  refine lv_iload_n hx hb dX7_raise_14 rfl (lv_at hl 3 rfl) ?_
  refine lv_iload hx hb dX7_raise_15 (lv_at hl 4 rfl) ?_
  refine rx_V (As := [.int a, .int b]) (rest := []) (v := none) S hG (c_X7_requireDaysToCome l G hlf A f g H hR a b) gX7_raise_X7_requireDaysToCome rfl ⟨rfl, rfl⟩ nmX7_requireDaysToCome ⟨Nat.le_of_ble_eq_true rfl, Nat.le_of_ble_eq_true rfl⟩ (rd_rcv hG.1 (rP_0 hR) rfl) rfl hl.1 rfl (Nat.le_of_ble_eq_true rfl) ⟨Nat.le_of_ble_eq_true rfl, Nat.le_of_ble_eq_true rfl⟩ dX7_raise_17 hxt hlk ⟨Nat.le_of_ble_eq_true rfl, Nat.le_of_ble_eq_true rfl⟩ (fun E t hE hext => ⟨by first | rfl | (simp only [k1, k2, hE, kOr, ne_eq, not_true_eq_false, not_false_eq_true, and_true, true_and, and_false, false_and, or_true, true_or, or_false, false_or, and_self, or_self, decide_eq_true_eq, ↓reduceIte]; done) | (simp only [k1, k2, hE, kOr, ne_eq, not_true_eq_false, not_false_eq_true, and_true, true_and, and_false, false_and, or_true, true_or, or_false, false_or, and_self, or_self, decide_eq_true_eq, ↓reduceIte]; done) | (simp [k1, k2, hE, kOr]; done) | (simp only [k1, k2, hE, kOr, ne_eq, not_true_eq_false, not_false_eq_true, and_true, true_and, and_false, false_and, or_true, true_or, or_false, false_or, and_self, or_self, decide_eq_true_eq, ↓reduceIte]), hext⟩) (fun k3 => ?_)
  refine W.eq (g2 := F0 mZ 20 ls []) rfl ?_
  refine lv_aload_n hx hb dX7_raise_20 rfl (lv_at hl 0 rfl) ?_
  refine rx_V (As := []) (rest := []) (v := none) S hG (c_X7_requireNoticeLeft l G hlf A f g H hR ) gX7_raise_X7_requireNoticeLeft rfl ⟨rfl, rfl⟩ nmX7_requireNoticeLeft ⟨Nat.le_of_ble_eq_true rfl, Nat.le_of_ble_eq_true rfl⟩ (rd_rcv hG.1 (rP_0 hR) rfl) rfl hl.1 rfl (Nat.le_of_ble_eq_true rfl) ⟨Nat.le_of_ble_eq_true rfl, Nat.le_of_ble_eq_true rfl⟩ dX7_raise_21 hxt hlk ⟨Nat.le_of_ble_eq_true rfl, Nat.le_of_ble_eq_true rfl⟩ (fun E t hE hext => ⟨by first | rfl | (simp only [k1, k2, k3, hE, kOr, ne_eq, not_true_eq_false, not_false_eq_true, and_true, true_and, and_false, false_and, or_true, true_or, or_false, false_or, and_self, or_self, decide_eq_true_eq, ↓reduceIte]; done) | (simp only [k1, k2, k3, hE, kOr, ne_eq, not_true_eq_false, not_false_eq_true, and_true, true_and, and_false, false_and, or_true, true_or, or_false, false_or, and_self, or_self, decide_eq_true_eq, ↓reduceIte]; done) | (simp [k1, k2, k3, hE, kOr]; done) | (simp only [k1, k2, k3, hE, kOr, ne_eq, not_true_eq_false, not_false_eq_true, and_true, true_and, and_false, false_and, or_true, true_or, or_false, false_or, and_self, or_self, decide_eq_true_eq, ↓reduceIte]), hext⟩) (fun k4 => ?_)
  refine W.eq (g2 := F0 mZ 24 ls []) rfl ?_
  refine lv_aload_n hx hb dX7_raise_24 rfl (lv_at hl 0 rfl) ?_
  refine rd_get (own := RX7) (x := .ref (A 5)) S hG.1 iX7 (rP_0 hR) 4 rfl (by decide) w0 rfl dX7_raise_25 ?_
  refine lv_iconst (v := 0) hx hb dX7_raise_28 (by decide) ?_
  refine lv_iload_n hx hb dX7_raise_29 rfl (lv_at hl 1 rfl) ?_
  refine lv_iload_n hx hb dX7_raise_30 rfl (lv_at hl 2 rfl) ?_
  refine lv_iload_n hx hb dX7_raise_31 rfl (lv_at hl 3 rfl) ?_
  refine lv_iload hx hb dX7_raise_32 (lv_at hl 4 rfl) ?_
  have hc5 : g 5 < 16 := koNL_n hgb k4
  refine wr_V (As := [.int 0, .int i, .int v, .int a, .int b]) (rest := []) (v := some (.int (nI (g 5)))) S hA hG hM (c_X3_add l G A f g H hR hA 0 i v a b (by omega)) gX7_raise_X3_add rfl ⟨rfl, rfl⟩ nmX3_add ⟨Nat.le_of_ble_eq_true rfl, Nat.le_of_ble_eq_true rfl⟩ (rd_rcv hG.1 (rP_5 hR) rfl) rfl hl.1 rfl (Nat.le_of_ble_eq_true rfl) ⟨Nat.zero_le _, Nat.zero_le _⟩ dX7_raise_34 (fun H5 locs5 hM5 hG5 => ?_)
  have hR5 := hM5.1
  refine W.eq (g2 := F0 mZ 37 ls [.int (nI (g 5))]) rfl ?_
  exact wx_iret S hr hlk dX7_raise_37 (by first | rfl | (simp only [k1, k2, k3, k4, kOr, ne_eq, not_true_eq_false, not_false_eq_true, and_true, true_and, and_false, false_and, or_true, true_or, or_false, false_or, and_self, or_self, decide_eq_true_eq, ↓reduceIte]; done) | (simp only [k1, k2, k3, k4, kOr, ne_eq, not_true_eq_false, not_false_eq_true, and_true, true_and, and_false, false_and, or_true, true_or, or_false, false_or, and_self, or_self, decide_eq_true_eq, ↓reduceIte]; done) | (simp [k1, k2, k3, k4, kOr]; done) | (simp only [k1, k2, k3, k4, kOr, ne_eq, not_true_eq_false, not_false_eq_true, and_true, true_and, and_false, false_and, or_true, true_or, or_false, false_or, and_self, or_self, decide_eq_true_eq, ↓reduceIte])) hM5 (congrArg (fun z => some (Value.int z)) (by first | rfl | (simp only [k1, k2, k3, k4, ne_eq, not_true_eq_false, not_false_eq_true, and_true, true_and, and_false, false_and, or_true, true_or, or_false, false_or, and_self, or_self, decide_eq_true_eq, ↓reduceIte]; done) | (simp [k1, k2, k3, k4]; done) | (simp only [k1, k2, k3, k4, ne_eq, not_true_eq_false, not_false_eq_true, and_true, true_and, and_false, false_and, or_true, true_or, or_false, false_or, and_self, or_self, decide_eq_true_eq, ↓reduceIte])))
set_option maxHeartbeats 1000000 in
set_option maxRecDepth 100000 in
theorem c_X7_out (l : Launch) (G : GT) (hlf : l.stackTraces = false) (A : Nat → Nat) (f : Nat → Nat → Int32) (g : Nat → Nat) (H : Heap) (hR : RP G A f g H) (hA : RA G A) (i a b : Int32) : WxV l G A H yX7_out wsX7_out { frames := 8, cells := 1, slots := 6, locals := 126 } [.ref (A 0), .int i, .int a, .int b] (kOr (koIx i 3) (kOr (koTime g a b) (koNL g))) (some (.int (nI (g 5)))) (noAdd f g 1 i 0 a b) (gset g 5 (g 5 + 1)) := by
  refine wx_of (cc := cX7_out) (maxL := 4) (ret := (some .int)) (by decide) rfl (Nat.le_of_ble_eq_true rfl) ?_
  intro pZ eZ sZ mZ bZ meZ cZ ls S hr hlk hxt hl hHs hG
  have S : CallFix pZ mZ cZ cX7_out 4 sZ _ wsX7_out RX7 := S
  have hx := S.1
  have hb := S.2.1
  have hown := S.2.2.2.1
  have hts := S.2.2.2.2
  have hl : lv_has ls 4 [(0, .ref (A 0)), (1, .int i), (2, .int a), (3, .int b)] := hl
  have w0 := hts (.fieldLink RX7 40 "MinimaRoom" "notices" "LMinimaRoom$Notices;") (by decide +kernel)
  have iX7 : ∀ w ∈ u_ws RX7 TX7 8, w ∈ wsX7_out := by decide +kernel
  have hM := MS.rf hR
  have hgb := hR.1
  refine lv_iload_n hx hb dX7_out_0 rfl (lv_at hl 1 rfl) ?_
  refine rx_S (As := [.int i]) (rest := []) (v := none) S hG (c_X7_requireAid l G hlf H i) gX7_out_X7_requireAid rfl ⟨rfl, rfl⟩ nmX7_requireAid ⟨Nat.le_of_ble_eq_true rfl, Nat.le_of_ble_eq_true rfl⟩ rfl hl.1 rfl (Nat.le_of_ble_eq_true rfl) ⟨Nat.le_of_ble_eq_true rfl, Nat.le_of_ble_eq_true rfl⟩ dX7_out_1 hxt hlk ⟨Nat.le_of_ble_eq_true rfl, Nat.le_of_ble_eq_true rfl⟩ (fun E t hE hext => ⟨by first | rfl | (simp only [hE, kOr, ne_eq, not_true_eq_false, not_false_eq_true, and_true, true_and, and_false, false_and, or_true, true_or, or_false, false_or, and_self, or_self, decide_eq_true_eq, ↓reduceIte]; done) | (simp only [hE, kOr, ne_eq, not_true_eq_false, not_false_eq_true, and_true, true_and, and_false, false_and, or_true, true_or, or_false, false_or, and_self, or_self, decide_eq_true_eq, ↓reduceIte]; done) | (simp [hE, kOr]; done) | (simp only [hE, kOr, ne_eq, not_true_eq_false, not_false_eq_true, and_true, true_and, and_false, false_and, or_true, true_or, or_false, false_or, and_self, or_self, decide_eq_true_eq, ↓reduceIte]), hext⟩) (fun k1 => ?_)
  refine W.eq (g2 := F0 mZ 4 ls []) rfl ?_
  refine lv_aload_n hx hb dX7_out_4 rfl (lv_at hl 0 rfl) ?_
  refine lv_iload_n hx hb dX7_out_5 rfl (lv_at hl 2 rfl) ?_
  refine lv_iload_n hx hb dX7_out_6 rfl (lv_at hl 3 rfl) ?_
  refine rx_V (As := [.int a, .int b]) (rest := []) (v := none) S hG (c_X7_requireDaysToCome l G hlf A f g H hR a b) gX7_out_X7_requireDaysToCome rfl ⟨rfl, rfl⟩ nmX7_requireDaysToCome ⟨Nat.le_of_ble_eq_true rfl, Nat.le_of_ble_eq_true rfl⟩ (rd_rcv hG.1 (rP_0 hR) rfl) rfl hl.1 rfl (Nat.le_of_ble_eq_true rfl) ⟨Nat.le_of_ble_eq_true rfl, Nat.le_of_ble_eq_true rfl⟩ dX7_out_7 hxt hlk ⟨Nat.le_of_ble_eq_true rfl, Nat.le_of_ble_eq_true rfl⟩ (fun E t hE hext => ⟨by first | rfl | (simp only [k1, hE, kOr, ne_eq, not_true_eq_false, not_false_eq_true, and_true, true_and, and_false, false_and, or_true, true_or, or_false, false_or, and_self, or_self, decide_eq_true_eq, ↓reduceIte]; done) | (simp only [k1, hE, kOr, ne_eq, not_true_eq_false, not_false_eq_true, and_true, true_and, and_false, false_and, or_true, true_or, or_false, false_or, and_self, or_self, decide_eq_true_eq, ↓reduceIte]; done) | (simp [k1, hE, kOr]; done) | (simp only [k1, hE, kOr, ne_eq, not_true_eq_false, not_false_eq_true, and_true, true_and, and_false, false_and, or_true, true_or, or_false, false_or, and_self, or_self, decide_eq_true_eq, ↓reduceIte]), hext⟩) (fun k2 => ?_)
  refine W.eq (g2 := F0 mZ 10 ls []) rfl ?_
  refine lv_aload_n hx hb dX7_out_10 rfl (lv_at hl 0 rfl) ?_
  refine rx_V (As := []) (rest := []) (v := none) S hG (c_X7_requireNoticeLeft l G hlf A f g H hR ) gX7_out_X7_requireNoticeLeft rfl ⟨rfl, rfl⟩ nmX7_requireNoticeLeft ⟨Nat.le_of_ble_eq_true rfl, Nat.le_of_ble_eq_true rfl⟩ (rd_rcv hG.1 (rP_0 hR) rfl) rfl hl.1 rfl (Nat.le_of_ble_eq_true rfl) ⟨Nat.le_of_ble_eq_true rfl, Nat.le_of_ble_eq_true rfl⟩ dX7_out_11 hxt hlk ⟨Nat.le_of_ble_eq_true rfl, Nat.le_of_ble_eq_true rfl⟩ (fun E t hE hext => ⟨by first | rfl | (simp only [k1, k2, hE, kOr, ne_eq, not_true_eq_false, not_false_eq_true, and_true, true_and, and_false, false_and, or_true, true_or, or_false, false_or, and_self, or_self, decide_eq_true_eq, ↓reduceIte]; done) | (simp only [k1, k2, hE, kOr, ne_eq, not_true_eq_false, not_false_eq_true, and_true, true_and, and_false, false_and, or_true, true_or, or_false, false_or, and_self, or_self, decide_eq_true_eq, ↓reduceIte]; done) | (simp [k1, k2, hE, kOr]; done) | (simp only [k1, k2, hE, kOr, ne_eq, not_true_eq_false, not_false_eq_true, and_true, true_and, and_false, false_and, or_true, true_or, or_false, false_or, and_self, or_self, decide_eq_true_eq, ↓reduceIte]), hext⟩) (fun k3 => ?_)
  refine W.eq (g2 := F0 mZ 14 ls []) rfl ?_
  refine lv_aload_n hx hb dX7_out_14 rfl (lv_at hl 0 rfl) ?_
  refine rd_get (own := RX7) (x := .ref (A 5)) S hG.1 iX7 (rP_0 hR) 4 rfl (by decide) w0 rfl dX7_out_15 ?_
  refine lv_iconst (v := 1) hx hb dX7_out_18 (by decide) ?_
  refine lv_iload_n hx hb dX7_out_19 rfl (lv_at hl 1 rfl) ?_
  refine lv_iconst (v := 0) hx hb dX7_out_20 (by decide) ?_
  refine lv_iload_n hx hb dX7_out_21 rfl (lv_at hl 2 rfl) ?_
  refine lv_iload_n hx hb dX7_out_22 rfl (lv_at hl 3 rfl) ?_
  have hc5 : g 5 < 16 := koNL_n hgb k3
  refine wr_V (As := [.int 1, .int i, .int 0, .int a, .int b]) (rest := []) (v := some (.int (nI (g 5)))) S hA hG hM (c_X3_add l G A f g H hR hA 1 i 0 a b (by omega)) gX7_out_X3_add rfl ⟨rfl, rfl⟩ nmX3_add ⟨Nat.le_of_ble_eq_true rfl, Nat.le_of_ble_eq_true rfl⟩ (rd_rcv hG.1 (rP_5 hR) rfl) rfl hl.1 rfl (Nat.le_of_ble_eq_true rfl) ⟨Nat.zero_le _, Nat.zero_le _⟩ dX7_out_23 (fun H4 locs4 hM4 hG4 => ?_)
  have hR4 := hM4.1
  refine W.eq (g2 := F0 mZ 26 ls [.int (nI (g 5))]) rfl ?_
  exact wx_iret S hr hlk dX7_out_26 (by first | rfl | (simp only [k1, k2, k3, kOr, ne_eq, not_true_eq_false, not_false_eq_true, and_true, true_and, and_false, false_and, or_true, true_or, or_false, false_or, and_self, or_self, decide_eq_true_eq, ↓reduceIte]; done) | (simp only [k1, k2, k3, kOr, ne_eq, not_true_eq_false, not_false_eq_true, and_true, true_and, and_false, false_and, or_true, true_or, or_false, false_or, and_self, or_self, decide_eq_true_eq, ↓reduceIte]; done) | (simp [k1, k2, k3, kOr]; done) | (simp only [k1, k2, k3, kOr, ne_eq, not_true_eq_false, not_false_eq_true, and_true, true_and, and_false, false_and, or_true, true_or, or_false, false_or, and_self, or_self, decide_eq_true_eq, ↓reduceIte])) hM4 (congrArg (fun z => some (Value.int z)) (by first | rfl | (simp only [k1, k2, k3, ne_eq, not_true_eq_false, not_false_eq_true, and_true, true_and, and_false, false_and, or_true, true_or, or_false, false_or, and_self, or_self, decide_eq_true_eq, ↓reduceIte]; done) | (simp [k1, k2, k3]; done) | (simp only [k1, k2, k3, ne_eq, not_true_eq_false, not_false_eq_true, and_true, true_and, and_false, false_and, or_true, true_or, or_false, false_or, and_self, or_self, decide_eq_true_eq, ↓reduceIte])))
set_option maxHeartbeats 1000000 in
set_option maxRecDepth 100000 in
theorem c_X7_close (l : Launch) (G : GT) (hlf : l.stackTraces = false) (A : Nat → Nat) (f : Nat → Nat → Int32) (g : Nat → Nat) (H : Heap) (hR : RP G A f g H) (hA : RA G A) (i a b : Int32) : WxV l G A H yX7_close wsX7_close { frames := 8, cells := 1, slots := 6, locals := 126 } [.ref (A 0), .int i, .int a, .int b] (kOr (koIx i (g 3)) (kOr (koTime g a b) (koNL g))) (some (.int (nI (g 5)))) (noAdd f g 2 i 0 a b) (gset g 5 (g 5 + 1)) := by
  refine wx_of (cc := cX7_close) (maxL := 4) (ret := (some .int)) (by decide) rfl (Nat.le_of_ble_eq_true rfl) ?_
  intro pZ eZ sZ mZ bZ meZ cZ ls S hr hlk hxt hl hHs hG
  have S : CallFix pZ mZ cZ cX7_close 4 sZ _ wsX7_close RX7 := S
  have hx := S.1
  have hb := S.2.1
  have hown := S.2.2.2.1
  have hts := S.2.2.2.2
  have hl : lv_has ls 4 [(0, .ref (A 0)), (1, .int i), (2, .int a), (3, .int b)] := hl
  have w0 := hts (.fieldLink RX7 40 "MinimaRoom" "notices" "LMinimaRoom$Notices;") (by decide +kernel)
  have iX7 : ∀ w ∈ u_ws RX7 TX7 8, w ∈ wsX7_close := by decide +kernel
  have hM := MS.rf hR
  have hgb := hR.1
  refine lv_aload_n hx hb dX7_close_0 rfl (lv_at hl 0 rfl) ?_
  refine lv_iload_n hx hb dX7_close_1 rfl (lv_at hl 1 rfl) ?_
  refine rx_V (As := [.int i]) (rest := []) (v := none) S hG (c_X7_requireProcedure l G hlf A f g H hR i) gX7_close_X7_requireProcedure rfl ⟨rfl, rfl⟩ nmX7_requireProcedure ⟨Nat.le_of_ble_eq_true rfl, Nat.le_of_ble_eq_true rfl⟩ (rd_rcv hG.1 (rP_0 hR) rfl) rfl hl.1 rfl (Nat.le_of_ble_eq_true rfl) ⟨Nat.le_of_ble_eq_true rfl, Nat.le_of_ble_eq_true rfl⟩ dX7_close_2 hxt hlk ⟨Nat.le_of_ble_eq_true rfl, Nat.le_of_ble_eq_true rfl⟩ (fun E t hE hext => ⟨by first | rfl | (simp only [hE, kOr, ne_eq, not_true_eq_false, not_false_eq_true, and_true, true_and, and_false, false_and, or_true, true_or, or_false, false_or, and_self, or_self, decide_eq_true_eq, ↓reduceIte]; done) | (simp only [hE, kOr, ne_eq, not_true_eq_false, not_false_eq_true, and_true, true_and, and_false, false_and, or_true, true_or, or_false, false_or, and_self, or_self, decide_eq_true_eq, ↓reduceIte]; done) | (simp [hE, kOr]; done) | (simp only [hE, kOr, ne_eq, not_true_eq_false, not_false_eq_true, and_true, true_and, and_false, false_and, or_true, true_or, or_false, false_or, and_self, or_self, decide_eq_true_eq, ↓reduceIte]), hext⟩) (fun k1 => ?_)
  refine W.eq (g2 := F0 mZ 5 ls []) rfl ?_
  refine lv_aload_n hx hb dX7_close_5 rfl (lv_at hl 0 rfl) ?_
  refine lv_iload_n hx hb dX7_close_6 rfl (lv_at hl 2 rfl) ?_
  refine lv_iload_n hx hb dX7_close_7 rfl (lv_at hl 3 rfl) ?_
  refine rx_V (As := [.int a, .int b]) (rest := []) (v := none) S hG (c_X7_requireDaysToCome l G hlf A f g H hR a b) gX7_close_X7_requireDaysToCome rfl ⟨rfl, rfl⟩ nmX7_requireDaysToCome ⟨Nat.le_of_ble_eq_true rfl, Nat.le_of_ble_eq_true rfl⟩ (rd_rcv hG.1 (rP_0 hR) rfl) rfl hl.1 rfl (Nat.le_of_ble_eq_true rfl) ⟨Nat.le_of_ble_eq_true rfl, Nat.le_of_ble_eq_true rfl⟩ dX7_close_8 hxt hlk ⟨Nat.le_of_ble_eq_true rfl, Nat.le_of_ble_eq_true rfl⟩ (fun E t hE hext => ⟨by first | rfl | (simp only [k1, hE, kOr, ne_eq, not_true_eq_false, not_false_eq_true, and_true, true_and, and_false, false_and, or_true, true_or, or_false, false_or, and_self, or_self, decide_eq_true_eq, ↓reduceIte]; done) | (simp only [k1, hE, kOr, ne_eq, not_true_eq_false, not_false_eq_true, and_true, true_and, and_false, false_and, or_true, true_or, or_false, false_or, and_self, or_self, decide_eq_true_eq, ↓reduceIte]; done) | (simp [k1, hE, kOr]; done) | (simp only [k1, hE, kOr, ne_eq, not_true_eq_false, not_false_eq_true, and_true, true_and, and_false, false_and, or_true, true_or, or_false, false_or, and_self, or_self, decide_eq_true_eq, ↓reduceIte]), hext⟩) (fun k2 => ?_)
  refine W.eq (g2 := F0 mZ 11 ls []) rfl ?_
  refine lv_aload_n hx hb dX7_close_11 rfl (lv_at hl 0 rfl) ?_
  refine rx_V (As := []) (rest := []) (v := none) S hG (c_X7_requireNoticeLeft l G hlf A f g H hR ) gX7_close_X7_requireNoticeLeft rfl ⟨rfl, rfl⟩ nmX7_requireNoticeLeft ⟨Nat.le_of_ble_eq_true rfl, Nat.le_of_ble_eq_true rfl⟩ (rd_rcv hG.1 (rP_0 hR) rfl) rfl hl.1 rfl (Nat.le_of_ble_eq_true rfl) ⟨Nat.le_of_ble_eq_true rfl, Nat.le_of_ble_eq_true rfl⟩ dX7_close_12 hxt hlk ⟨Nat.le_of_ble_eq_true rfl, Nat.le_of_ble_eq_true rfl⟩ (fun E t hE hext => ⟨by first | rfl | (simp only [k1, k2, hE, kOr, ne_eq, not_true_eq_false, not_false_eq_true, and_true, true_and, and_false, false_and, or_true, true_or, or_false, false_or, and_self, or_self, decide_eq_true_eq, ↓reduceIte]; done) | (simp only [k1, k2, hE, kOr, ne_eq, not_true_eq_false, not_false_eq_true, and_true, true_and, and_false, false_and, or_true, true_or, or_false, false_or, and_self, or_self, decide_eq_true_eq, ↓reduceIte]; done) | (simp [k1, k2, hE, kOr]; done) | (simp only [k1, k2, hE, kOr, ne_eq, not_true_eq_false, not_false_eq_true, and_true, true_and, and_false, false_and, or_true, true_or, or_false, false_or, and_self, or_self, decide_eq_true_eq, ↓reduceIte]), hext⟩) (fun k3 => ?_)
  refine W.eq (g2 := F0 mZ 15 ls []) rfl ?_
  refine lv_aload_n hx hb dX7_close_15 rfl (lv_at hl 0 rfl) ?_
  refine rd_get (own := RX7) (x := .ref (A 5)) S hG.1 iX7 (rP_0 hR) 4 rfl (by decide) w0 rfl dX7_close_16 ?_
  refine lv_iconst (v := 2) hx hb dX7_close_19 (by decide) ?_
  refine lv_iload_n hx hb dX7_close_20 rfl (lv_at hl 1 rfl) ?_
  refine lv_iconst (v := 0) hx hb dX7_close_21 (by decide) ?_
  refine lv_iload_n hx hb dX7_close_22 rfl (lv_at hl 2 rfl) ?_
  refine lv_iload_n hx hb dX7_close_23 rfl (lv_at hl 3 rfl) ?_
  have hc5 : g 5 < 16 := koNL_n hgb k3
  refine wr_V (As := [.int 2, .int i, .int 0, .int a, .int b]) (rest := []) (v := some (.int (nI (g 5)))) S hA hG hM (c_X3_add l G A f g H hR hA 2 i 0 a b (by omega)) gX7_close_X3_add rfl ⟨rfl, rfl⟩ nmX3_add ⟨Nat.le_of_ble_eq_true rfl, Nat.le_of_ble_eq_true rfl⟩ (rd_rcv hG.1 (rP_5 hR) rfl) rfl hl.1 rfl (Nat.le_of_ble_eq_true rfl) ⟨Nat.zero_le _, Nat.zero_le _⟩ dX7_close_24 (fun H4 locs4 hM4 hG4 => ?_)
  have hR4 := hM4.1
  refine W.eq (g2 := F0 mZ 27 ls [.int (nI (g 5))]) rfl ?_
  exact wx_iret S hr hlk dX7_close_27 (by first | rfl | (simp only [k1, k2, k3, kOr, ne_eq, not_true_eq_false, not_false_eq_true, and_true, true_and, and_false, false_and, or_true, true_or, or_false, false_or, and_self, or_self, decide_eq_true_eq, ↓reduceIte]; done) | (simp only [k1, k2, k3, kOr, ne_eq, not_true_eq_false, not_false_eq_true, and_true, true_and, and_false, false_and, or_true, true_or, or_false, false_or, and_self, or_self, decide_eq_true_eq, ↓reduceIte]; done) | (simp [k1, k2, k3, kOr]; done) | (simp only [k1, k2, k3, kOr, ne_eq, not_true_eq_false, not_false_eq_true, and_true, true_and, and_false, false_and, or_true, true_or, or_false, false_or, and_self, or_self, decide_eq_true_eq, ↓reduceIte])) hM4 (congrArg (fun z => some (Value.int z)) (by first | rfl | (simp only [k1, k2, k3, ne_eq, not_true_eq_false, not_false_eq_true, and_true, true_and, and_false, false_and, or_true, true_or, or_false, false_or, and_self, or_self, decide_eq_true_eq, ↓reduceIte]; done) | (simp [k1, k2, k3]; done) | (simp only [k1, k2, k3, ne_eq, not_true_eq_false, not_false_eq_true, and_true, true_and, and_false, false_and, or_true, true_or, or_false, false_or, and_self, or_self, decide_eq_true_eq, ↓reduceIte])))
set_option maxHeartbeats 1000000 in
set_option maxRecDepth 100000 in
theorem c_X7_cancel (l : Launch) (G : GT) (hlf : l.stackTraces = false) (A : Nat → Nat) (f : Nat → Nat → Int32) (g : Nat → Nat) (H : Heap) (hR : RP G A f g H) (hA : RA G A) (i : Int32) : WxV l G A H yX7_cancel wsX7_cancel { frames := 7, cells := 1, slots := 6, locals := 103 } [.ref (A 0), .int i] (kOr (koIx i (g 5)) (kOr (if rowAt 16 (f 22) i = 3 then some xISE else none) (koNL g))) (some (.int (nI (g 5)))) (caAdd f g i (nI (g 0))) (gset g 5 (g 5 + 1)) := by
  refine wx_of (cc := cX7_cancel) (maxL := 2) (ret := (some .int)) (by decide) rfl (Nat.le_of_ble_eq_true rfl) ?_
  intro pZ eZ sZ mZ bZ meZ cZ ls S hr hlk hxt hl hHs hG
  have S : CallFix pZ mZ cZ cX7_cancel 2 sZ _ wsX7_cancel RX7 := S
  have hx := S.1
  have hb := S.2.1
  have hown := S.2.2.2.1
  have hts := S.2.2.2.2
  have hl : lv_has ls 2 [(0, .ref (A 0)), (1, .int i)] := hl
  have w0 := hts (.fieldLink RX7 40 "MinimaRoom" "notices" "LMinimaRoom$Notices;") (by decide +kernel)
  have w1 := hts (.fieldLink RX7 51 "MinimaRoom" "now" "I") (by decide +kernel)
  have iX7 : ∀ w ∈ u_ws RX7 TX7 8, w ∈ wsX7_cancel := by decide +kernel
  have iX3 : ∀ w ∈ u_ws RX3 TX3 7, w ∈ wsX7_cancel := by decide +kernel
  have hxk_ISE : Cond.classLink RX7 69 xISE ∈ wsX7_cancel := by decide +kernel
  have hxi_ISE : Cond.initialized xISE ∈ wsX7_cancel := by decide +kernel
  have hx1_ISE : ∀ w ∈ (vx_atS RX7 73 xISE xUp).filter goodWord, w ∈ wsX7_cancel := by decide +kernel
  have hM := MS.rf hR
  have hgb := hR.1
  refine lv_aload_n hx hb dX7_cancel_0 rfl (lv_at hl 0 rfl) ?_
  refine lv_iload_n hx hb dX7_cancel_1 rfl (lv_at hl 1 rfl) ?_
  refine rx_V (As := [.int i]) (rest := []) (v := none) S hG (c_X7_requireNotice l G hlf A f g H hR i) gX7_cancel_X7_requireNotice rfl ⟨rfl, rfl⟩ nmX7_requireNotice ⟨Nat.le_of_ble_eq_true rfl, Nat.le_of_ble_eq_true rfl⟩ (rd_rcv hG.1 (rP_0 hR) rfl) rfl hl.1 rfl (Nat.le_of_ble_eq_true rfl) ⟨Nat.le_of_ble_eq_true rfl, Nat.le_of_ble_eq_true rfl⟩ dX7_cancel_2 hxt hlk ⟨Nat.le_of_ble_eq_true rfl, Nat.le_of_ble_eq_true rfl⟩ (fun E t hE hext => ⟨by first | rfl | (simp only [hE, kOr, ne_eq, not_true_eq_false, not_false_eq_true, and_true, true_and, and_false, false_and, or_true, true_or, or_false, false_or, and_self, or_self, decide_eq_true_eq, ↓reduceIte]; done) | (simp only [hE, kOr, ne_eq, not_true_eq_false, not_false_eq_true, and_true, true_and, and_false, false_and, or_true, true_or, or_false, false_or, and_self, or_self, decide_eq_true_eq, ↓reduceIte]; done) | (simp [hE, kOr]; done) | (simp only [hE, kOr, ne_eq, not_true_eq_false, not_false_eq_true, and_true, true_and, and_false, false_and, or_true, true_or, or_false, false_or, and_self, or_self, decide_eq_true_eq, ↓reduceIte]), hext⟩) (fun k1 => ?_)
  refine W.eq (g2 := F0 mZ 5 ls []) rfl ?_
  refine lv_aload_n hx hb dX7_cancel_5 rfl (lv_at hl 0 rfl) ?_
  refine rd_get (own := RX7) (x := .ref (A 5)) S hG.1 iX7 (rP_0 hR) 4 rfl (by decide) w0 rfl dX7_cancel_6 ?_
  refine rd_getN (own := RX7) (x := .ref (A 22)) S hG.1 iX3 (rP_5 hR) 0 rfl (by decide) nest_162 rfl dX7_cancel_9 ?_
  refine lv_iload_n hx hb dX7_cancel_12 rfl (lv_at hl 1 rfl) ?_
  refine rd_V (As := [.int i]) (rest := []) (v := some (.int (rowAt 16 (f 22) i))) S hG (c_X6_at l G H (A 22) (A 42) 16 (f 22) (by decide) (rP_22 hR) (rP_42 hR) i) gX7_cancel_X6_at rfl ⟨rfl, rfl⟩ nmX6_at ⟨Nat.le_of_ble_eq_true rfl, Nat.le_of_ble_eq_true rfl⟩ (rd_rcv hG.1 (rP_22 hR) rfl) rfl hl.1 rfl (Nat.le_of_ble_eq_true rfl) ⟨Nat.zero_le _, Nat.zero_le _⟩ dX7_cancel_13 ?_
  refine W.eq (g2 := F0 mZ 16 ls [.int (rowAt 16 (f 22) i)]) rfl ?_
  refine lv_iconst (v := 3) hx hb dX7_cancel_16 (by decide) ?_
  refine lv_icmp_ne (tgt := 30) hx hb dX7_cancel_17 (by decide) (fun c2 => ?_) (fun c2 => ?_)
  · refine lv_aload_n hx hb dX7_cancel_30 rfl (lv_at hl 0 rfl) ?_
    refine rx_V (As := []) (rest := []) (v := none) S hG (c_X7_requireNoticeLeft l G hlf A f g H hR ) gX7_cancel_X7_requireNoticeLeft rfl ⟨rfl, rfl⟩ nmX7_requireNoticeLeft ⟨Nat.le_of_ble_eq_true rfl, Nat.le_of_ble_eq_true rfl⟩ (rd_rcv hG.1 (rP_0 hR) rfl) rfl hl.1 rfl (Nat.le_of_ble_eq_true rfl) ⟨Nat.le_of_ble_eq_true rfl, Nat.le_of_ble_eq_true rfl⟩ dX7_cancel_31 hxt hlk ⟨Nat.le_of_ble_eq_true rfl, Nat.le_of_ble_eq_true rfl⟩ (fun E t hE hext => ⟨by first | rfl | (simp only [k1, hE, kOr, ne_eq, not_true_eq_false, not_false_eq_true, and_true, true_and, and_false, false_and, or_true, true_or, or_false, false_or, and_self, or_self, decide_eq_true_eq, ↓reduceIte]; done) | (simp only [k1, c2, hE, kOr, ne_eq, not_true_eq_false, not_false_eq_true, and_true, true_and, and_false, false_and, or_true, true_or, or_false, false_or, and_self, or_self, decide_eq_true_eq, ↓reduceIte]; done) | (simp [k1, c2, hE, kOr]; done) | (simp only [k1, c2, hE, kOr, ne_eq, not_true_eq_false, not_false_eq_true, and_true, true_and, and_false, false_and, or_true, true_or, or_false, false_or, and_self, or_self, decide_eq_true_eq, ↓reduceIte]), hext⟩) (fun k3 => ?_)
    refine W.eq (g2 := F0 mZ 34 ls []) rfl ?_
    refine lv_aload_n hx hb dX7_cancel_34 rfl (lv_at hl 0 rfl) ?_
    refine rd_get (own := RX7) (x := .ref (A 5)) S hG.1 iX7 (rP_0 hR) 4 rfl (by decide) w0 rfl dX7_cancel_35 ?_
    refine lv_iload_n hx hb dX7_cancel_38 rfl (lv_at hl 1 rfl) ?_
    refine lv_aload_n hx hb dX7_cancel_39 rfl (lv_at hl 0 rfl) ?_
    refine rd_get (own := RX7) (x := .int (nI (g 0))) S hG.1 iX7 (rP_0 hR) 6 rfl (by decide) w1 rfl dX7_cancel_40 ?_
    have hc5 : g 5 < 16 := koNL_n hgb k3
    refine wr_V (As := [.int i, .int (nI (g 0))]) (rest := []) (v := some (.int (nI (g 5)))) S hA hG hM (c_X3_addCancel l G A f g H hR hA i (nI (g 0)) (by omega)) gX7_cancel_X3_addCancel rfl ⟨rfl, rfl⟩ nmX3_addCancel ⟨Nat.le_of_ble_eq_true rfl, Nat.le_of_ble_eq_true rfl⟩ (rd_rcv hG.1 (rP_5 hR) rfl) rfl hl.1 rfl (Nat.le_of_ble_eq_true rfl) ⟨Nat.zero_le _, Nat.zero_le _⟩ dX7_cancel_43 (fun H4 locs4 hM4 hG4 => ?_)
    have hR4 := hM4.1
    refine W.eq (g2 := F0 mZ 46 ls [.int (nI (g 5))]) rfl ?_
    exact wx_iret S hr hlk dX7_cancel_46 (by first | rfl | (simp only [k1, k3, kOr, ne_eq, not_true_eq_false, not_false_eq_true, and_true, true_and, and_false, false_and, or_true, true_or, or_false, false_or, and_self, or_self, decide_eq_true_eq, ↓reduceIte]; done) | (simp only [k1, c2, k3, kOr, ne_eq, not_true_eq_false, not_false_eq_true, and_true, true_and, and_false, false_and, or_true, true_or, or_false, false_or, and_self, or_self, decide_eq_true_eq, ↓reduceIte]; done) | (simp [k1, c2, k3, kOr]; done) | (simp only [k1, c2, k3, kOr, ne_eq, not_true_eq_false, not_false_eq_true, and_true, true_and, and_false, false_and, or_true, true_or, or_false, false_or, and_self, or_self, decide_eq_true_eq, ↓reduceIte])) hM4 (congrArg (fun z => some (Value.int z)) (by first | rfl | (simp only [k1, c2, k3, ne_eq, not_true_eq_false, not_false_eq_true, and_true, true_and, and_false, false_and, or_true, true_or, or_false, false_or, and_self, or_self, decide_eq_true_eq, ↓reduceIte]; done) | (simp [k1, c2, k3]; done) | (simp only [k1, c2, k3, ne_eq, not_true_eq_false, not_false_eq_true, and_true, true_and, and_false, false_and, or_true, true_or, or_false, false_or, and_self, or_self, decide_eq_true_eq, ↓reduceIte])))
  · exact rx_thS (text := "a cancel cannot be cancelled") (rest := []) S hHs hlf hG hl.1 hxt hlk hxk_ISE hxi_ISE rfl (by decide) hx1_ISE at_ISE ot_ISE dX7_cancel_20 dX7_cancel_23 dX7_cancel_24 dX7_cancel_26 dX7_cancel_29 ⟨by decide, Nat.le_of_ble_eq_true rfl, Nat.le_of_ble_eq_true rfl, Nat.le_of_ble_eq_true rfl⟩ ⟨Nat.le_of_ble_eq_true rfl, Nat.le_of_ble_eq_true rfl⟩ (fun t hext => ⟨by first | rfl | (simp only [k1, kOr, ne_eq, not_true_eq_false, not_false_eq_true, and_true, true_and, and_false, false_and, or_true, true_or, or_false, false_or, and_self, or_self, decide_eq_true_eq, ↓reduceIte]; done) | (simp only [k1, c2, kOr, ne_eq, not_true_eq_false, not_false_eq_true, and_true, true_and, and_false, false_and, or_true, true_or, or_false, false_or, and_self, or_self, decide_eq_true_eq, ↓reduceIte]; done) | (simp [k1, c2, kOr]; done) | (simp only [k1, c2, kOr, ne_eq, not_true_eq_false, not_false_eq_true, and_true, true_and, and_false, false_and, or_true, true_or, or_false, false_or, and_self, or_self, decide_eq_true_eq, ↓reduceIte]), hext⟩)
set_option maxHeartbeats 1000000 in
set_option maxRecDepth 100000 in
theorem c_X7_load (l : Launch) (G : GT) (hlf : l.stackTraces = false) (A : Nat → Nat) (f : Nat → Nat → Int32) (g : Nat → Nat) (H : Heap) (hR : RP G A f g H) (hA : RA G A) (cr : Int32) : WxV l G A H yX7_load wsX7_load { frames := 7, cells := 1, slots := 6, locals := 102 } [.ref (A 0), .int cr] (koIx cr 4) (some (.int (rowAt 4 (f 28) cr))) (rowPut f 28 cr (nI (g 0))) (g) := by
  refine wx_of (cc := cX7_load) (maxL := 3) (ret := (some .int)) (by decide) rfl (Nat.le_of_ble_eq_true rfl) ?_
  intro pZ eZ sZ mZ bZ meZ cZ ls S hr hlk hxt hl hHs hG
  have S : CallFix pZ mZ cZ cX7_load 3 sZ _ wsX7_load RX7 := S
  have hx := S.1
  have hb := S.2.1
  have hown := S.2.2.2.1
  have hts := S.2.2.2.2
  have hl : lv_has ls 3 [(0, .ref (A 0)), (1, .int cr)] := hl
  have w0 := hts (.fieldLink RX7 47 "MinimaRoom" "crews" "LMinimaRoom$Crews;") (by decide +kernel)
  have w1 := hts (.fieldLink RX7 51 "MinimaRoom" "now" "I") (by decide +kernel)
  have iX7 : ∀ w ∈ u_ws RX7 TX7 8, w ∈ wsX7_load := by decide +kernel
  have iX2 : ∀ w ∈ u_ws RX2 TX2 2, w ∈ wsX7_load := by decide +kernel
  have hM := MS.rf hR
  have hgb := hR.1
  refine lv_iload_n hx hb dX7_load_0 rfl (lv_at hl 1 rfl) ?_
  refine rx_S (As := [.int cr]) (rest := []) (v := none) S hG (c_X7_requireCrew l G hlf H cr) gX7_load_X7_requireCrew rfl ⟨rfl, rfl⟩ nmX7_requireCrew ⟨Nat.le_of_ble_eq_true rfl, Nat.le_of_ble_eq_true rfl⟩ rfl hl.1 rfl (Nat.le_of_ble_eq_true rfl) ⟨Nat.le_of_ble_eq_true rfl, Nat.le_of_ble_eq_true rfl⟩ dX7_load_1 hxt hlk ⟨Nat.le_of_ble_eq_true rfl, Nat.le_of_ble_eq_true rfl⟩ (fun E t hE hext => ⟨by first | rfl | (simp only [hE, kOr, ne_eq, not_true_eq_false, not_false_eq_true, and_true, true_and, and_false, false_and, or_true, true_or, or_false, false_or, and_self, or_self, decide_eq_true_eq, ↓reduceIte]; done) | (simp only [hE, kOr, ne_eq, not_true_eq_false, not_false_eq_true, and_true, true_and, and_false, false_and, or_true, true_or, or_false, false_or, and_self, or_self, decide_eq_true_eq, ↓reduceIte]; done) | (simp [hE, kOr]; done) | (simp only [hE, kOr, ne_eq, not_true_eq_false, not_false_eq_true, and_true, true_and, and_false, false_and, or_true, true_or, or_false, false_or, and_self, or_self, decide_eq_true_eq, ↓reduceIte]), hext⟩) (fun k1 => ?_)
  refine W.eq (g2 := F0 mZ 4 ls []) rfl ?_
  refine lv_aload_n hx hb dX7_load_4 rfl (lv_at hl 0 rfl) ?_
  refine rd_get (own := RX7) (x := .ref (A 6)) S hG.1 iX7 (rP_0 hR) 5 rfl (by decide) w0 rfl dX7_load_5 ?_
  refine rd_getN (own := RX7) (x := .ref (A 28)) S hG.1 iX2 (rP_6 hR) 0 rfl (by decide) nest_171 rfl dX7_load_8 ?_
  refine lv_iload_n hx hb dX7_load_11 rfl (lv_at hl 1 rfl) ?_
  refine rd_V (As := [.int cr]) (rest := []) (v := some (.int (rowAt 4 (f 28) cr))) S hG (c_X6_at l G H (A 28) (A 48) 4 (f 28) (by decide) (rP_28 hR) (rP_48 hR) cr) gX7_load_X6_at rfl ⟨rfl, rfl⟩ nmX6_at ⟨Nat.le_of_ble_eq_true rfl, Nat.le_of_ble_eq_true rfl⟩ (rd_rcv hG.1 (rP_28 hR) rfl) rfl hl.1 rfl (Nat.le_of_ble_eq_true rfl) ⟨Nat.zero_le _, Nat.zero_le _⟩ dX7_load_12 ?_
  refine W.eq (g2 := F0 mZ 15 ls [.int (rowAt 4 (f 28) cr)]) rfl ?_
  refine lv_topi (fun x2 ex2 => ?_)
  refine lv_istore_n (lv' := [(2, .int x2), (0, .ref (A 0)), (1, .int cr)]) hx hb dX7_load_15 rfl hl (by decide) rfl (fun ls hl => ?_)
  refine lv_aload_n hx hb dX7_load_16 rfl (lv_at hl 1 rfl) ?_
  refine rd_get (own := RX7) (x := .ref (A 6)) S hG.1 iX7 (rP_0 hR) 5 rfl (by decide) w0 rfl dX7_load_17 ?_
  refine rd_getN (own := RX7) (x := .ref (A 28)) S hG.1 iX2 (rP_6 hR) 0 rfl (by decide) nest_171 rfl dX7_load_20 ?_
  refine lv_iload_n hx hb dX7_load_23 rfl (lv_at hl 2 rfl) ?_
  refine lv_aload_n hx hb dX7_load_24 rfl (lv_at hl 1 rfl) ?_
  refine rd_get (own := RX7) (x := .int (nI (g 0))) S hG.1 iX7 (rP_0 hR) 6 rfl (by decide) w1 rfl dX7_load_25 ?_
  refine wr_V (As := [.int cr, .int (nI (g 0))]) (rest := []) (v := none) S hA hG hM (c_X6_put l G A f g H hR hA 28 (by decide) cr (nI (g 0))) gX7_load_X6_put rfl ⟨rfl, rfl⟩ nmX6_put ⟨Nat.le_of_ble_eq_true rfl, Nat.le_of_ble_eq_true rfl⟩ (rd_rcv hG.1 (rP_28 hR) rfl) rfl hl.1 rfl (Nat.le_of_ble_eq_true rfl) ⟨Nat.zero_le _, Nat.zero_le _⟩ dX7_load_28 (fun H3 locs3 hM3 hG3 => ?_)
  have hR3 := hM3.1
  refine W.eq (g2 := F0 mZ 31 ls []) rfl ?_
  refine lv_iload_n hx hb dX7_load_31 rfl (lv_at hl 0 rfl) ?_
  exact wx_iret S hr hlk dX7_load_32 (by subst ex2; first | rfl | (simp only [k1, kOr, ne_eq, not_true_eq_false, not_false_eq_true, and_true, true_and, and_false, false_and, or_true, true_or, or_false, false_or, and_self, or_self, decide_eq_true_eq, ↓reduceIte]; done) | (simp only [k1, kOr, ne_eq, not_true_eq_false, not_false_eq_true, and_true, true_and, and_false, false_and, or_true, true_or, or_false, false_or, and_self, or_self, decide_eq_true_eq, ↓reduceIte]; done) | (simp [k1, kOr]; done) | (simp only [k1, kOr, ne_eq, not_true_eq_false, not_false_eq_true, and_true, true_and, and_false, false_and, or_true, true_or, or_false, false_or, and_self, or_self, decide_eq_true_eq, ↓reduceIte])) (by subst ex2; exact hM3) (congrArg (fun z => some (Value.int z)) (by subst ex2; first | rfl | (simp only [k1, ne_eq, not_true_eq_false, not_false_eq_true, and_true, true_and, and_false, false_and, or_true, true_or, or_false, false_or, and_self, or_self, decide_eq_true_eq, ↓reduceIte]; done) | (simp [k1]; done) | (simp only [k1, ne_eq, not_true_eq_false, not_false_eq_true, and_true, true_and, and_false, false_and, or_true, true_or, or_false, false_or, and_self, or_self, decide_eq_true_eq, ↓reduceIte])))
set_option maxHeartbeats 1000000 in
set_option maxRecDepth 100000 in
theorem c_X7_read (l : Launch) (G : GT) (hlf : l.stackTraces = false) (A : Nat → Nat) (f : Nat → Nat → Int32) (g : Nat → Nat) (H : Heap) (hR : RP G A f g H) (hA : RA G A) (cr : Int32) : WxV l G A H yX7_read wsX7_read { frames := 7, cells := 1, slots := 6, locals := 102 } [.ref (A 0), .int cr] (koIx cr 4) (some (.int (nI (g 5) - rowAt 4 (f 29) cr))) (rowPut f 29 cr (nI (g 5))) (g) := by
  refine wx_of (cc := cX7_read) (maxL := 3) (ret := (some .int)) (by decide) rfl (Nat.le_of_ble_eq_true rfl) ?_
  intro pZ eZ sZ mZ bZ meZ cZ ls S hr hlk hxt hl hHs hG
  have S : CallFix pZ mZ cZ cX7_read 3 sZ _ wsX7_read RX7 := S
  have hx := S.1
  have hb := S.2.1
  have hown := S.2.2.2.1
  have hts := S.2.2.2.2
  have hl : lv_has ls 3 [(0, .ref (A 0)), (1, .int cr)] := hl
  have w0 := hts (.fieldLink RX7 47 "MinimaRoom" "crews" "LMinimaRoom$Crews;") (by decide +kernel)
  have w1 := hts (.fieldLink RX7 40 "MinimaRoom" "notices" "LMinimaRoom$Notices;") (by decide +kernel)
  have iX7 : ∀ w ∈ u_ws RX7 TX7 8, w ∈ wsX7_read := by decide +kernel
  have iX2 : ∀ w ∈ u_ws RX2 TX2 2, w ∈ wsX7_read := by decide +kernel
  have iX3 : ∀ w ∈ u_ws RX3 TX3 7, w ∈ wsX7_read := by decide +kernel
  have hM := MS.rf hR
  have hgb := hR.1
  refine lv_iload_n hx hb dX7_read_0 rfl (lv_at hl 1 rfl) ?_
  refine rx_S (As := [.int cr]) (rest := []) (v := none) S hG (c_X7_requireCrew l G hlf H cr) gX7_read_X7_requireCrew rfl ⟨rfl, rfl⟩ nmX7_requireCrew ⟨Nat.le_of_ble_eq_true rfl, Nat.le_of_ble_eq_true rfl⟩ rfl hl.1 rfl (Nat.le_of_ble_eq_true rfl) ⟨Nat.le_of_ble_eq_true rfl, Nat.le_of_ble_eq_true rfl⟩ dX7_read_1 hxt hlk ⟨Nat.le_of_ble_eq_true rfl, Nat.le_of_ble_eq_true rfl⟩ (fun E t hE hext => ⟨by first | rfl | (simp only [hE, kOr, ne_eq, not_true_eq_false, not_false_eq_true, and_true, true_and, and_false, false_and, or_true, true_or, or_false, false_or, and_self, or_self, decide_eq_true_eq, ↓reduceIte]; done) | (simp only [hE, kOr, ne_eq, not_true_eq_false, not_false_eq_true, and_true, true_and, and_false, false_and, or_true, true_or, or_false, false_or, and_self, or_self, decide_eq_true_eq, ↓reduceIte]; done) | (simp [hE, kOr]; done) | (simp only [hE, kOr, ne_eq, not_true_eq_false, not_false_eq_true, and_true, true_and, and_false, false_and, or_true, true_or, or_false, false_or, and_self, or_self, decide_eq_true_eq, ↓reduceIte]), hext⟩) (fun k1 => ?_)
  refine W.eq (g2 := F0 mZ 4 ls []) rfl ?_
  refine lv_aload_n hx hb dX7_read_4 rfl (lv_at hl 0 rfl) ?_
  refine rd_get (own := RX7) (x := .ref (A 6)) S hG.1 iX7 (rP_0 hR) 5 rfl (by decide) w0 rfl dX7_read_5 ?_
  refine rd_getN (own := RX7) (x := .ref (A 29)) S hG.1 iX2 (rP_6 hR) 1 rfl (by decide) nest_174 rfl dX7_read_8 ?_
  refine lv_iload_n hx hb dX7_read_11 rfl (lv_at hl 1 rfl) ?_
  refine rd_V (As := [.int cr]) (rest := []) (v := some (.int (rowAt 4 (f 29) cr))) S hG (c_X6_at l G H (A 29) (A 49) 4 (f 29) (by decide) (rP_29 hR) (rP_49 hR) cr) gX7_read_X6_at rfl ⟨rfl, rfl⟩ nmX6_at ⟨Nat.le_of_ble_eq_true rfl, Nat.le_of_ble_eq_true rfl⟩ (rd_rcv hG.1 (rP_29 hR) rfl) rfl hl.1 rfl (Nat.le_of_ble_eq_true rfl) ⟨Nat.zero_le _, Nat.zero_le _⟩ dX7_read_12 ?_
  refine W.eq (g2 := F0 mZ 15 ls [.int (rowAt 4 (f 29) cr)]) rfl ?_
  refine lv_topi (fun x2 ex2 => ?_)
  refine lv_istore_n (lv' := [(2, .int x2), (0, .ref (A 0)), (1, .int cr)]) hx hb dX7_read_15 rfl hl (by decide) rfl (fun ls hl => ?_)
  refine lv_aload_n hx hb dX7_read_16 rfl (lv_at hl 1 rfl) ?_
  refine rd_get (own := RX7) (x := .ref (A 6)) S hG.1 iX7 (rP_0 hR) 5 rfl (by decide) w0 rfl dX7_read_17 ?_
  refine rd_getN (own := RX7) (x := .ref (A 29)) S hG.1 iX2 (rP_6 hR) 1 rfl (by decide) nest_174 rfl dX7_read_20 ?_
  refine lv_iload_n hx hb dX7_read_23 rfl (lv_at hl 2 rfl) ?_
  refine lv_aload_n hx hb dX7_read_24 rfl (lv_at hl 1 rfl) ?_
  refine rd_get (own := RX7) (x := .ref (A 5)) S hG.1 iX7 (rP_0 hR) 4 rfl (by decide) w1 rfl dX7_read_25 ?_
  refine rd_getN (own := RX7) (x := .int (nI (g 5))) S hG.1 iX3 (rP_5 hR) 6 rfl (by decide) nest_177 rfl dX7_read_28 ?_
  refine wr_V (As := [.int cr, .int (nI (g 5))]) (rest := []) (v := none) S hA hG hM (c_X6_put l G A f g H hR hA 29 (by decide) cr (nI (g 5))) gX7_read_X6_put rfl ⟨rfl, rfl⟩ nmX6_put ⟨Nat.le_of_ble_eq_true rfl, Nat.le_of_ble_eq_true rfl⟩ (rd_rcv hG.1 (rP_29 hR) rfl) rfl hl.1 rfl (Nat.le_of_ble_eq_true rfl) ⟨Nat.zero_le _, Nat.zero_le _⟩ dX7_read_31 (fun H3 locs3 hM3 hG3 => ?_)
  have hR3 := hM3.1
  refine W.eq (g2 := F0 mZ 34 ls []) rfl ?_
  refine lv_aload_n hx hb dX7_read_34 rfl (lv_at hl 1 rfl) ?_
  refine rd_get (own := RX7) (x := .ref (A 5)) S hG3.1 iX7 (rP_0 hR3) 4 rfl (by decide) w1 rfl dX7_read_35 ?_
  refine rd_getN (own := RX7) (x := .int (nI ((g) 5))) S hG3.1 iX3 (rP_5 hR3) 6 rfl (by decide) nest_177 rfl dX7_read_38 ?_
  refine lv_iload_n hx hb dX7_read_41 rfl (lv_at hl 0 rfl) ?_
  refine lv_isub hx hb dX7_read_42 ?_
  exact wx_iret S hr hlk dX7_read_43 (by subst ex2; first | rfl | (simp only [k1, kOr, ne_eq, not_true_eq_false, not_false_eq_true, and_true, true_and, and_false, false_and, or_true, true_or, or_false, false_or, and_self, or_self, decide_eq_true_eq, ↓reduceIte]; done) | (simp only [k1, kOr, ne_eq, not_true_eq_false, not_false_eq_true, and_true, true_and, and_false, false_and, or_true, true_or, or_false, false_or, and_self, or_self, decide_eq_true_eq, ↓reduceIte]; done) | (simp [k1, kOr]; done) | (simp only [k1, kOr, ne_eq, not_true_eq_false, not_false_eq_true, and_true, true_and, and_false, false_and, or_true, true_or, or_false, false_or, and_self, or_self, decide_eq_true_eq, ↓reduceIte])) (by subst ex2; exact hM3) (congrArg (fun z => some (Value.int z)) (by subst ex2; first | rfl | (simp only [k1, ne_eq, not_true_eq_false, not_false_eq_true, and_true, true_and, and_false, false_and, or_true, true_or, or_false, false_or, and_self, or_self, decide_eq_true_eq, ↓reduceIte]; done) | (simp [k1]; done) | (simp only [k1, ne_eq, not_true_eq_false, not_false_eq_true, and_true, true_and, and_false, false_and, or_true, true_or, or_false, false_or, and_self, or_self, decide_eq_true_eq, ↓reduceIte])))
