/-! what the writing methods leave -/
def obAdd (f : Nat → Nat → Int32) (g : Nat → Nat) (x y t a b : Int32) : Nat → Nat → Int32 := rowPut (rowPut (rowPut (rowPut (rowPut f 10 (nI (g 1)) x) 11 (nI (g 1)) y) 12 (nI (g 1)) t) 13 (nI (g 1)) a) 14 (nI (g 1)) b
def prAdd (f : Nat → Nat → Int32) (g : Nat → Nat) (a b : Int32) : Nat → Nat → Int32 := rowPut (rowPut f 17 (nI (g 3)) a) 18 (nI (g 3)) b
def amAdd (f : Nat → Nat → Int32) (g : Nat → Nat) (a b d : Int32) : Nat → Nat → Int32 := rowPut (rowPut (rowPut f 19 (nI (g 4)) a) 20 (nI (g 4)) b) 21 (nI (g 4)) d
def noAdd (f : Nat → Nat → Int32) (g : Nat → Nat) (x y t a b : Int32) : Nat → Nat → Int32 := rowPut (rowPut (rowPut (rowPut (rowPut f 22 (nI (g 5)) x) 23 (nI (g 5)) y) 24 (nI (g 5)) t) 25 (nI (g 5)) a) 26 (nI (g 5)) b
def caAdd (f : Nat → Nat → Int32) (g : Nat → Nat) (i d : Int32) : Nat → Nat → Int32 := if rowAt 16 ((noAdd f g 3 i 0 d (-1)) 27) i = -1 then rowPut (noAdd f g 3 i 0 d (-1)) 27 i (nI (g 5)) else noAdd f g 3 i 0 d (-1)
theorem nmX6_put : nmV yX6_put RX6 2 := by decide +kernel
theorem nmX4_add : nmV yX4_add RX4 5 := by decide +kernel
set_option maxHeartbeats 1000000 in
set_option maxRecDepth 100000 in
theorem c_X4_add (l : Launch) (G : GT) (A : Nat → Nat) (f : Nat → Nat → Int32) (g : Nat → Nat) (H : Heap) (hR : RP G A f g H) (hA : RA G A) (x y t a b : Int32) (hc1 : g 1 < 12) : WrV l G A H yX4_add wsX4_add { frames := 1, cells := 0, slots := 0, locals := 22 } [.ref (A 1), .int x, .int y, .int t, .int a, .int b] (some (.int (nI (g 1)))) (obAdd f g x y t a b) (gset g 1 (g 1 + 1)) := by
  refine wr_of (cc := cX4_add) (maxL := 7) (ret := (some .int)) (by decide) rfl (Nat.le_of_ble_eq_true rfl) ?_
  intro pZ eZ sZ mZ bZ meZ cZ ls S hr hlk hl hHs hG
  have S : CallFix pZ mZ cZ cX4_add 7 sZ _ wsX4_add RX4 := S
  have hx := S.1
  have hb := S.2.1
  have hown := S.2.2.2.1
  have hts := S.2.2.2.2
  have hl : lv_has ls 7 [(0, .ref (A 1)), (1, .int x), (2, .int y), (3, .int t), (4, .int a), (5, .int b)] := hl
  have w0 := hts (.fieldLink RX4 32 "MinimaRoom$Obstacles" "count" "I") (by decide +kernel)
  have w1 := hts (.fieldLink RX4 14 "MinimaRoom$Obstacles" "xs" "LMinimaRoom$Row;") (by decide +kernel)
  have w2 := hts (.fieldLink RX4 20 "MinimaRoom$Obstacles" "ys" "LMinimaRoom$Row;") (by decide +kernel)
  have w3 := hts (.fieldLink RX4 23 "MinimaRoom$Obstacles" "tops" "LMinimaRoom$Row;") (by decide +kernel)
  have w4 := hts (.fieldLink RX4 26 "MinimaRoom$Obstacles" "froms" "LMinimaRoom$Row;") (by decide +kernel)
  have w5 := hts (.fieldLink RX4 29 "MinimaRoom$Obstacles" "tos" "LMinimaRoom$Row;") (by decide +kernel)
  have iX4 : ∀ w ∈ u_ws RX4 TX4 6, w ∈ wsX4_add := by decide +kernel
  have hM := MS.rf hR
  have hgb := hR.1
  refine lv_aload_n hx hb dX4_add_0 rfl (lv_at hl 0 rfl) ?_
  refine rd_get (own := RX4) (x := .int (nI (g 1))) S hG.1 iX4 (rP_1 hR) 5 rfl (by decide) w0 rfl dX4_add_1 ?_
  refine lv_istore (lv' := [(6, .int (nI (g 1))), (0, .ref (A 1)), (1, .int x), (2, .int y), (3, .int t), (4, .int a), (5, .int b)]) hx hb dX4_add_4 hl (by decide) rfl (fun ls hl => ?_)
  refine lv_aload_n hx hb dX4_add_6 rfl (lv_at hl 1 rfl) ?_
  refine rd_get (own := RX4) (x := .ref (A 10)) S hG.1 iX4 (rP_1 hR) 0 rfl (by decide) w1 rfl dX4_add_7 ?_
  refine lv_iload hx hb dX4_add_10 (lv_at hl 0 rfl) ?_
  refine lv_iload_n hx hb dX4_add_12 rfl (lv_at hl 2 rfl) ?_
  refine wr_V (As := [.int (nI (g 1)), .int x]) (rest := []) (v := none) S hA hG hM (c_X6_put l G A f g H hR hA 10 (by decide) (nI (g 1)) x) gX4_add_X6_put rfl ⟨rfl, rfl⟩ nmX6_put ⟨Nat.le_of_ble_eq_true rfl, Nat.le_of_ble_eq_true rfl⟩ (rd_rcv hG.1 (rP_10 hR) rfl) rfl hl.1 rfl (Nat.le_of_ble_eq_true rfl) ⟨Nat.zero_le _, Nat.zero_le _⟩ dX4_add_13 (fun H1 locs1 hM1 hG1 => ?_)
  have hR1 := hM1.1
  refine W.eq (g2 := F0 mZ 16 ls []) rfl ?_
  refine lv_aload_n hx hb dX4_add_16 rfl (lv_at hl 1 rfl) ?_
  refine rd_get (own := RX4) (x := .ref (A 11)) S hG1.1 iX4 (rP_1 hR1) 1 rfl (by decide) w2 rfl dX4_add_17 ?_
  refine lv_iload hx hb dX4_add_20 (lv_at hl 0 rfl) ?_
  refine lv_iload_n hx hb dX4_add_22 rfl (lv_at hl 3 rfl) ?_
  refine wr_V (As := [.int (nI (g 1)), .int y]) (rest := []) (v := none) S hA hG1 hM1 (c_X6_put l G A (rowPut f 10 (nI (g 1)) x) (g) H1 hR1 hA 11 (by decide) (nI (g 1)) y) gX4_add_X6_put rfl ⟨rfl, rfl⟩ nmX6_put ⟨Nat.le_of_ble_eq_true rfl, Nat.le_of_ble_eq_true rfl⟩ (rd_rcv hG1.1 (rP_11 hR1) rfl) rfl hl.1 rfl (Nat.le_of_ble_eq_true rfl) ⟨Nat.zero_le _, Nat.zero_le _⟩ dX4_add_23 (fun H2 locs2 hM2 hG2 => ?_)
  have hR2 := hM2.1
  refine W.eq (g2 := F0 mZ 26 ls []) rfl ?_
  refine lv_aload_n hx hb dX4_add_26 rfl (lv_at hl 1 rfl) ?_
  refine rd_get (own := RX4) (x := .ref (A 12)) S hG2.1 iX4 (rP_1 hR2) 2 rfl (by decide) w3 rfl dX4_add_27 ?_
  refine lv_iload hx hb dX4_add_30 (lv_at hl 0 rfl) ?_
  refine lv_iload_n hx hb dX4_add_32 rfl (lv_at hl 4 rfl) ?_
  refine wr_V (As := [.int (nI (g 1)), .int t]) (rest := []) (v := none) S hA hG2 hM2 (c_X6_put l G A (rowPut (rowPut f 10 (nI (g 1)) x) 11 (nI (g 1)) y) ((g)) H2 hR2 hA 12 (by decide) (nI (g 1)) t) gX4_add_X6_put rfl ⟨rfl, rfl⟩ nmX6_put ⟨Nat.le_of_ble_eq_true rfl, Nat.le_of_ble_eq_true rfl⟩ (rd_rcv hG2.1 (rP_12 hR2) rfl) rfl hl.1 rfl (Nat.le_of_ble_eq_true rfl) ⟨Nat.zero_le _, Nat.zero_le _⟩ dX4_add_33 (fun H3 locs3 hM3 hG3 => ?_)
  have hR3 := hM3.1
  refine W.eq (g2 := F0 mZ 36 ls []) rfl ?_
  refine lv_aload_n hx hb dX4_add_36 rfl (lv_at hl 1 rfl) ?_
  refine rd_get (own := RX4) (x := .ref (A 13)) S hG3.1 iX4 (rP_1 hR3) 3 rfl (by decide) w4 rfl dX4_add_37 ?_
  refine lv_iload hx hb dX4_add_40 (lv_at hl 0 rfl) ?_
  refine lv_iload hx hb dX4_add_42 (lv_at hl 5 rfl) ?_
  refine wr_V (As := [.int (nI (g 1)), .int a]) (rest := []) (v := none) S hA hG3 hM3 (c_X6_put l G A (rowPut (rowPut (rowPut f 10 (nI (g 1)) x) 11 (nI (g 1)) y) 12 (nI (g 1)) t) (((g))) H3 hR3 hA 13 (by decide) (nI (g 1)) a) gX4_add_X6_put rfl ⟨rfl, rfl⟩ nmX6_put ⟨Nat.le_of_ble_eq_true rfl, Nat.le_of_ble_eq_true rfl⟩ (rd_rcv hG3.1 (rP_13 hR3) rfl) rfl hl.1 rfl (Nat.le_of_ble_eq_true rfl) ⟨Nat.zero_le _, Nat.zero_le _⟩ dX4_add_44 (fun H4 locs4 hM4 hG4 => ?_)
  have hR4 := hM4.1
  refine W.eq (g2 := F0 mZ 47 ls []) rfl ?_
  refine lv_aload_n hx hb dX4_add_47 rfl (lv_at hl 1 rfl) ?_
  refine rd_get (own := RX4) (x := .ref (A 14)) S hG4.1 iX4 (rP_1 hR4) 4 rfl (by decide) w5 rfl dX4_add_48 ?_
  refine lv_iload hx hb dX4_add_51 (lv_at hl 0 rfl) ?_
  refine lv_iload hx hb dX4_add_53 (lv_at hl 6 rfl) ?_
  refine wr_V (As := [.int (nI (g 1)), .int b]) (rest := []) (v := none) S hA hG4 hM4 (c_X6_put l G A (rowPut (rowPut (rowPut (rowPut f 10 (nI (g 1)) x) 11 (nI (g 1)) y) 12 (nI (g 1)) t) 13 (nI (g 1)) a) ((((g)))) H4 hR4 hA 14 (by decide) (nI (g 1)) b) gX4_add_X6_put rfl ⟨rfl, rfl⟩ nmX6_put ⟨Nat.le_of_ble_eq_true rfl, Nat.le_of_ble_eq_true rfl⟩ (rd_rcv hG4.1 (rP_14 hR4) rfl) rfl hl.1 rfl (Nat.le_of_ble_eq_true rfl) ⟨Nat.zero_le _, Nat.zero_le _⟩ dX4_add_55 (fun H5 locs5 hM5 hG5 => ?_)
  have hR5 := hM5.1
  refine W.eq (g2 := F0 mZ 58 ls []) rfl ?_
  refine lv_aload_n hx hb dX4_add_58 rfl (lv_at hl 1 rfl) ?_
  refine lv_dup hx hb dX4_add_59 rfl ?_
  refine rd_get (own := RX4) (x := .int (nI ((((((g))))) 1))) S hG5.1 iX4 (rP_1 hR5) 5 rfl (by decide) w0 rfl dX4_add_60 ?_
  refine lv_iconst (v := 1) hx hb dX4_add_63 (by decide) ?_
  refine lv_iadd hx hb dX4_add_64 ?_
  refine W.eq (g2 := F0 mZ 65 ls [.int (nI (((((((g))))) 1) + 1)), .ref (A 1)]) (by rw [nI_1]) ?_
  refine wr_cnt (k := 1) (j := 5) (d := 1) (n := (((((((g))))) 1) + 1)) S hG5 hA hM5 (by decide) rfl rfl (by intro i _ hi; unfold rC; simp [gset, hi]) (by omega) iX4 tyX4 tyX4_ok nmX4 rfl (by decide) w0 rfl (by decide +kernel) (Nat.le_of_ble_eq_true rfl) dX4_add_65 (fun H6 locs6 hM6 hG6 => ?_)
  have hR6 := hM6.1
  refine lv_iload hx hb dX4_add_68 (lv_at hl 0 rfl) ?_
  exact wr_iret S hr hlk dX4_add_70 hM6 (congrArg (fun z => some (Value.int z)) (by first | rfl | (simp only [true_and, ne_eq, not_true_eq_false, not_false_eq_true, and_true, true_and, and_false, false_and, or_true, true_or, or_false, false_or, and_self, or_self, decide_eq_true_eq, ↓reduceIte]; done) | (simp [true_and]; done) | (simp only [true_and, ne_eq, not_true_eq_false, not_false_eq_true, and_true, true_and, and_false, false_and, or_true, true_or, or_false, false_or, and_self, or_self, decide_eq_true_eq, ↓reduceIte])))
theorem nmX5_add : nmV yX5_add RX5 2 := by decide +kernel
set_option maxHeartbeats 1000000 in
set_option maxRecDepth 100000 in
theorem c_X5_add (l : Launch) (G : GT) (A : Nat → Nat) (f : Nat → Nat → Int32) (g : Nat → Nat) (H : Heap) (hR : RP G A f g H) (hA : RA G A) (a b : Int32) (hc3 : g 3 < 4) : WrV l G A H yX5_add wsX5_add { frames := 1, cells := 0, slots := 0, locals := 22 } [.ref (A 3), .int a, .int b] (some (.int (nI (g 3)))) (prAdd f g a b) (gset g 3 (g 3 + 1)) := by
  refine wr_of (cc := cX5_add) (maxL := 4) (ret := (some .int)) (by decide) rfl (Nat.le_of_ble_eq_true rfl) ?_
  intro pZ eZ sZ mZ bZ meZ cZ ls S hr hlk hl hHs hG
  have S : CallFix pZ mZ cZ cX5_add 4 sZ _ wsX5_add RX5 := S
  have hx := S.1
  have hb := S.2.1
  have hown := S.2.2.2.1
  have hts := S.2.2.2.2
  have hl : lv_has ls 4 [(0, .ref (A 3)), (1, .int a), (2, .int b)] := hl
  have w0 := hts (.fieldLink RX5 23 "MinimaRoom$Procedures" "count" "I") (by decide +kernel)
  have w1 := hts (.fieldLink RX5 14 "MinimaRoom$Procedures" "aids" "LMinimaRoom$Row;") (by decide +kernel)
  have w2 := hts (.fieldLink RX5 20 "MinimaRoom$Procedures" "slopes" "LMinimaRoom$Row;") (by decide +kernel)
  have iX5 : ∀ w ∈ u_ws RX5 TX5 3, w ∈ wsX5_add := by decide +kernel
  have hM := MS.rf hR
  have hgb := hR.1
  refine lv_aload_n hx hb dX5_add_0 rfl (lv_at hl 0 rfl) ?_
  refine rd_get (own := RX5) (x := .int (nI (g 3))) S hG.1 iX5 (rP_3 hR) 2 rfl (by decide) w0 rfl dX5_add_1 ?_
  refine lv_istore_n (lv' := [(3, .int (nI (g 3))), (0, .ref (A 3)), (1, .int a), (2, .int b)]) hx hb dX5_add_4 rfl hl (by decide) rfl (fun ls hl => ?_)
  refine lv_aload_n hx hb dX5_add_5 rfl (lv_at hl 1 rfl) ?_
  refine rd_get (own := RX5) (x := .ref (A 17)) S hG.1 iX5 (rP_3 hR) 0 rfl (by decide) w1 rfl dX5_add_6 ?_
  refine lv_iload_n hx hb dX5_add_9 rfl (lv_at hl 0 rfl) ?_
  refine lv_iload_n hx hb dX5_add_10 rfl (lv_at hl 2 rfl) ?_
  refine wr_V (As := [.int (nI (g 3)), .int a]) (rest := []) (v := none) S hA hG hM (c_X6_put l G A f g H hR hA 17 (by decide) (nI (g 3)) a) gX5_add_X6_put rfl ⟨rfl, rfl⟩ nmX6_put ⟨Nat.le_of_ble_eq_true rfl, Nat.le_of_ble_eq_true rfl⟩ (rd_rcv hG.1 (rP_17 hR) rfl) rfl hl.1 rfl (Nat.le_of_ble_eq_true rfl) ⟨Nat.zero_le _, Nat.zero_le _⟩ dX5_add_11 (fun H1 locs1 hM1 hG1 => ?_)
  have hR1 := hM1.1
  refine W.eq (g2 := F0 mZ 14 ls []) rfl ?_
  refine lv_aload_n hx hb dX5_add_14 rfl (lv_at hl 1 rfl) ?_
  refine rd_get (own := RX5) (x := .ref (A 18)) S hG1.1 iX5 (rP_3 hR1) 1 rfl (by decide) w2 rfl dX5_add_15 ?_
  refine lv_iload_n hx hb dX5_add_18 rfl (lv_at hl 0 rfl) ?_
  refine lv_iload_n hx hb dX5_add_19 rfl (lv_at hl 3 rfl) ?_
  refine wr_V (As := [.int (nI (g 3)), .int b]) (rest := []) (v := none) S hA hG1 hM1 (c_X6_put l G A (rowPut f 17 (nI (g 3)) a) (g) H1 hR1 hA 18 (by decide) (nI (g 3)) b) gX5_add_X6_put rfl ⟨rfl, rfl⟩ nmX6_put ⟨Nat.le_of_ble_eq_true rfl, Nat.le_of_ble_eq_true rfl⟩ (rd_rcv hG1.1 (rP_18 hR1) rfl) rfl hl.1 rfl (Nat.le_of_ble_eq_true rfl) ⟨Nat.zero_le _, Nat.zero_le _⟩ dX5_add_20 (fun H2 locs2 hM2 hG2 => ?_)
  have hR2 := hM2.1
  refine W.eq (g2 := F0 mZ 23 ls []) rfl ?_
  refine lv_aload_n hx hb dX5_add_23 rfl (lv_at hl 1 rfl) ?_
  refine lv_dup hx hb dX5_add_24 rfl ?_
  refine rd_get (own := RX5) (x := .int (nI (((g)) 3))) S hG2.1 iX5 (rP_3 hR2) 2 rfl (by decide) w0 rfl dX5_add_25 ?_
  refine lv_iconst (v := 1) hx hb dX5_add_28 (by decide) ?_
  refine lv_iadd hx hb dX5_add_29 ?_
  refine W.eq (g2 := F0 mZ 30 ls [.int (nI ((((g)) 3) + 1)), .ref (A 3)]) (by rw [nI_1]) ?_
  refine wr_cnt (k := 3) (j := 2) (d := 3) (n := ((((g)) 3) + 1)) S hG2 hA hM2 (by decide) rfl rfl (by intro i _ hi; unfold rC; simp [gset, hi]) (by omega) iX5 tyX5 tyX5_ok nmX5 rfl (by decide) w0 rfl (by decide +kernel) (Nat.le_of_ble_eq_true rfl) dX5_add_30 (fun H3 locs3 hM3 hG3 => ?_)
  have hR3 := hM3.1
  refine lv_iload_n hx hb dX5_add_33 rfl (lv_at hl 0 rfl) ?_
  exact wr_iret S hr hlk dX5_add_34 hM3 (congrArg (fun z => some (Value.int z)) (by first | rfl | (simp only [true_and, ne_eq, not_true_eq_false, not_false_eq_true, and_true, true_and, and_false, false_and, or_true, true_or, or_false, false_or, and_self, or_self, decide_eq_true_eq, ↓reduceIte]; done) | (simp [true_and]; done) | (simp only [true_and, ne_eq, not_true_eq_false, not_false_eq_true, and_true, true_and, and_false, false_and, or_true, true_or, or_false, false_or, and_self, or_self, decide_eq_true_eq, ↓reduceIte])))
theorem nmX1_add : nmV yX1_add RX1 3 := by decide +kernel
set_option maxHeartbeats 1000000 in
set_option maxRecDepth 100000 in
theorem c_X1_add (l : Launch) (G : GT) (A : Nat → Nat) (f : Nat → Nat → Int32) (g : Nat → Nat) (H : Heap) (hR : RP G A f g H) (hA : RA G A) (a b d : Int32) (hc4 : g 4 < 20) : WrV l G A H yX1_add wsX1_add { frames := 1, cells := 0, slots := 0, locals := 22 } [.ref (A 4), .int a, .int b, .int d] (none) (amAdd f g a b d) (gset g 4 (g 4 + 1)) := by
  refine wr_of (cc := cX1_add) (maxL := 4) (ret := none) (by decide) rfl (Nat.le_of_ble_eq_true rfl) ?_
  intro pZ eZ sZ mZ bZ meZ cZ ls S hr hlk hl hHs hG
  have S : CallFix pZ mZ cZ cX1_add 4 sZ _ wsX1_add RX1 := S
  have hx := S.1
  have hb := S.2.1
  have hown := S.2.2.2.1
  have hts := S.2.2.2.2
  have hl : lv_has ls 4 [(0, .ref (A 4)), (1, .int a), (2, .int b), (3, .int d)] := hl
  have w0 := hts (.fieldLink RX1 14 "MinimaRoom$Amendments" "procedures" "LMinimaRoom$Row;") (by decide +kernel)
  have w1 := hts (.fieldLink RX1 26 "MinimaRoom$Amendments" "count" "I") (by decide +kernel)
  have w2 := hts (.fieldLink RX1 20 "MinimaRoom$Amendments" "froms" "LMinimaRoom$Row;") (by decide +kernel)
  have w3 := hts (.fieldLink RX1 23 "MinimaRoom$Amendments" "heights" "LMinimaRoom$Row;") (by decide +kernel)
  have iX1 : ∀ w ∈ u_ws RX1 TX1 4, w ∈ wsX1_add := by decide +kernel
  have hM := MS.rf hR
  have hgb := hR.1
  refine lv_aload_n hx hb dX1_add_0 rfl (lv_at hl 0 rfl) ?_
  refine rd_get (own := RX1) (x := .ref (A 19)) S hG.1 iX1 (rP_4 hR) 0 rfl (by decide) w0 rfl dX1_add_1 ?_
  refine lv_aload_n hx hb dX1_add_4 rfl (lv_at hl 0 rfl) ?_
  refine rd_get (own := RX1) (x := .int (nI (g 4))) S hG.1 iX1 (rP_4 hR) 3 rfl (by decide) w1 rfl dX1_add_5 ?_
  refine lv_iload_n hx hb dX1_add_8 rfl (lv_at hl 1 rfl) ?_
  refine wr_V (As := [.int (nI (g 4)), .int a]) (rest := []) (v := none) S hA hG hM (c_X6_put l G A f g H hR hA 19 (by decide) (nI (g 4)) a) gX1_add_X6_put rfl ⟨rfl, rfl⟩ nmX6_put ⟨Nat.le_of_ble_eq_true rfl, Nat.le_of_ble_eq_true rfl⟩ (rd_rcv hG.1 (rP_19 hR) rfl) rfl hl.1 rfl (Nat.le_of_ble_eq_true rfl) ⟨Nat.zero_le _, Nat.zero_le _⟩ dX1_add_9 (fun H1 locs1 hM1 hG1 => ?_)
  have hR1 := hM1.1
  refine W.eq (g2 := F0 mZ 12 ls []) rfl ?_
  refine lv_aload_n hx hb dX1_add_12 rfl (lv_at hl 0 rfl) ?_
  refine rd_get (own := RX1) (x := .ref (A 20)) S hG1.1 iX1 (rP_4 hR1) 1 rfl (by decide) w2 rfl dX1_add_13 ?_
  refine lv_aload_n hx hb dX1_add_16 rfl (lv_at hl 0 rfl) ?_
  refine rd_get (own := RX1) (x := .int (nI ((g) 4))) S hG1.1 iX1 (rP_4 hR1) 3 rfl (by decide) w1 rfl dX1_add_17 ?_
  refine lv_iload_n hx hb dX1_add_20 rfl (lv_at hl 2 rfl) ?_
  refine wr_V (As := [.int (nI ((g) 4)), .int b]) (rest := []) (v := none) S hA hG1 hM1 (c_X6_put l G A (rowPut f 19 (nI (g 4)) a) (g) H1 hR1 hA 20 (by decide) (nI ((g) 4)) b) gX1_add_X6_put rfl ⟨rfl, rfl⟩ nmX6_put ⟨Nat.le_of_ble_eq_true rfl, Nat.le_of_ble_eq_true rfl⟩ (rd_rcv hG1.1 (rP_20 hR1) rfl) rfl hl.1 rfl (Nat.le_of_ble_eq_true rfl) ⟨Nat.zero_le _, Nat.zero_le _⟩ dX1_add_21 (fun H2 locs2 hM2 hG2 => ?_)
  have hR2 := hM2.1
  refine W.eq (g2 := F0 mZ 24 ls []) rfl ?_
  refine lv_aload_n hx hb dX1_add_24 rfl (lv_at hl 0 rfl) ?_
  refine rd_get (own := RX1) (x := .ref (A 21)) S hG2.1 iX1 (rP_4 hR2) 2 rfl (by decide) w3 rfl dX1_add_25 ?_
  refine lv_aload_n hx hb dX1_add_28 rfl (lv_at hl 0 rfl) ?_
  refine rd_get (own := RX1) (x := .int (nI (((g)) 4))) S hG2.1 iX1 (rP_4 hR2) 3 rfl (by decide) w1 rfl dX1_add_29 ?_
  refine lv_iload_n hx hb dX1_add_32 rfl (lv_at hl 3 rfl) ?_
  refine wr_V (As := [.int (nI (((g)) 4)), .int d]) (rest := []) (v := none) S hA hG2 hM2 (c_X6_put l G A (rowPut (rowPut f 19 (nI (g 4)) a) 20 (nI ((g) 4)) b) ((g)) H2 hR2 hA 21 (by decide) (nI (((g)) 4)) d) gX1_add_X6_put rfl ⟨rfl, rfl⟩ nmX6_put ⟨Nat.le_of_ble_eq_true rfl, Nat.le_of_ble_eq_true rfl⟩ (rd_rcv hG2.1 (rP_21 hR2) rfl) rfl hl.1 rfl (Nat.le_of_ble_eq_true rfl) ⟨Nat.zero_le _, Nat.zero_le _⟩ dX1_add_33 (fun H3 locs3 hM3 hG3 => ?_)
  have hR3 := hM3.1
  refine W.eq (g2 := F0 mZ 36 ls []) rfl ?_
  refine lv_aload_n hx hb dX1_add_36 rfl (lv_at hl 0 rfl) ?_
  refine lv_dup hx hb dX1_add_37 rfl ?_
  refine rd_get (own := RX1) (x := .int (nI ((((g))) 4))) S hG3.1 iX1 (rP_4 hR3) 3 rfl (by decide) w1 rfl dX1_add_38 ?_
  refine lv_iconst (v := 1) hx hb dX1_add_41 (by decide) ?_
  refine lv_iadd hx hb dX1_add_42 ?_
  refine W.eq (g2 := F0 mZ 43 ls [.int (nI (((((g))) 4) + 1)), .ref (A 4)]) (by rw [nI_1]) ?_
  refine wr_cnt (k := 4) (j := 3) (d := 4) (n := (((((g))) 4) + 1)) S hG3 hA hM3 (by decide) rfl rfl (by intro i _ hi; unfold rC; simp [gset, hi]) (by omega) iX1 tyX1 tyX1_ok nmX1 rfl (by decide) w1 rfl (by decide +kernel) (Nat.le_of_ble_eq_true rfl) dX1_add_43 (fun H4 locs4 hM4 hG4 => ?_)
  have hR4 := hM4.1
  exact wr_vret S hr hlk dX1_add_46 hM4
theorem nmX3_add : nmV yX3_add RX3 5 := by decide +kernel
set_option maxHeartbeats 1000000 in
set_option maxRecDepth 100000 in
theorem c_X3_add (l : Launch) (G : GT) (A : Nat → Nat) (f : Nat → Nat → Int32) (g : Nat → Nat) (H : Heap) (hR : RP G A f g H) (hA : RA G A) (x y t a b : Int32) (hc5 : g 5 < 16) : WrV l G A H yX3_add wsX3_add { frames := 1, cells := 0, slots := 0, locals := 22 } [.ref (A 5), .int x, .int y, .int t, .int a, .int b] (some (.int (nI (g 5)))) (noAdd f g x y t a b) (gset g 5 (g 5 + 1)) := by
  refine wr_of (cc := cX3_add) (maxL := 7) (ret := (some .int)) (by decide) rfl (Nat.le_of_ble_eq_true rfl) ?_
  intro pZ eZ sZ mZ bZ meZ cZ ls S hr hlk hl hHs hG
  have S : CallFix pZ mZ cZ cX3_add 7 sZ _ wsX3_add RX3 := S
  have hx := S.1
  have hb := S.2.1
  have hown := S.2.2.2.1
  have hts := S.2.2.2.2
  have hl : lv_has ls 7 [(0, .ref (A 5)), (1, .int x), (2, .int y), (3, .int t), (4, .int a), (5, .int b)] := hl
  have w0 := hts (.fieldLink RX3 35 "MinimaRoom$Notices" "count" "I") (by decide +kernel)
  have w1 := hts (.fieldLink RX3 14 "MinimaRoom$Notices" "kinds" "LMinimaRoom$Row;") (by decide +kernel)
  have w2 := hts (.fieldLink RX3 20 "MinimaRoom$Notices" "subjects" "LMinimaRoom$Row;") (by decide +kernel)
  have w3 := hts (.fieldLink RX3 23 "MinimaRoom$Notices" "raises" "LMinimaRoom$Row;") (by decide +kernel)
  have w4 := hts (.fieldLink RX3 26 "MinimaRoom$Notices" "froms" "LMinimaRoom$Row;") (by decide +kernel)
  have w5 := hts (.fieldLink RX3 29 "MinimaRoom$Notices" "tos" "LMinimaRoom$Row;") (by decide +kernel)
  have iX3 : ∀ w ∈ u_ws RX3 TX3 7, w ∈ wsX3_add := by decide +kernel
  have hM := MS.rf hR
  have hgb := hR.1
  refine lv_aload_n hx hb dX3_add_0 rfl (lv_at hl 0 rfl) ?_
  refine rd_get (own := RX3) (x := .int (nI (g 5))) S hG.1 iX3 (rP_5 hR) 6 rfl (by decide) w0 rfl dX3_add_1 ?_
  refine lv_istore (lv' := [(6, .int (nI (g 5))), (0, .ref (A 5)), (1, .int x), (2, .int y), (3, .int t), (4, .int a), (5, .int b)]) hx hb dX3_add_4 hl (by decide) rfl (fun ls hl => ?_)
  refine lv_aload_n hx hb dX3_add_6 rfl (lv_at hl 1 rfl) ?_
  refine rd_get (own := RX3) (x := .ref (A 22)) S hG.1 iX3 (rP_5 hR) 0 rfl (by decide) w1 rfl dX3_add_7 ?_
  refine lv_iload hx hb dX3_add_10 (lv_at hl 0 rfl) ?_
  refine lv_iload_n hx hb dX3_add_12 rfl (lv_at hl 2 rfl) ?_
  refine wr_V (As := [.int (nI (g 5)), .int x]) (rest := []) (v := none) S hA hG hM (c_X6_put l G A f g H hR hA 22 (by decide) (nI (g 5)) x) gX3_add_X6_put rfl ⟨rfl, rfl⟩ nmX6_put ⟨Nat.le_of_ble_eq_true rfl, Nat.le_of_ble_eq_true rfl⟩ (rd_rcv hG.1 (rP_22 hR) rfl) rfl hl.1 rfl (Nat.le_of_ble_eq_true rfl) ⟨Nat.zero_le _, Nat.zero_le _⟩ dX3_add_13 (fun H1 locs1 hM1 hG1 => ?_)
  have hR1 := hM1.1
  refine W.eq (g2 := F0 mZ 16 ls []) rfl ?_
  refine lv_aload_n hx hb dX3_add_16 rfl (lv_at hl 1 rfl) ?_
  refine rd_get (own := RX3) (x := .ref (A 23)) S hG1.1 iX3 (rP_5 hR1) 1 rfl (by decide) w2 rfl dX3_add_17 ?_
  refine lv_iload hx hb dX3_add_20 (lv_at hl 0 rfl) ?_
  refine lv_iload_n hx hb dX3_add_22 rfl (lv_at hl 3 rfl) ?_
  refine wr_V (As := [.int (nI (g 5)), .int y]) (rest := []) (v := none) S hA hG1 hM1 (c_X6_put l G A (rowPut f 22 (nI (g 5)) x) (g) H1 hR1 hA 23 (by decide) (nI (g 5)) y) gX3_add_X6_put rfl ⟨rfl, rfl⟩ nmX6_put ⟨Nat.le_of_ble_eq_true rfl, Nat.le_of_ble_eq_true rfl⟩ (rd_rcv hG1.1 (rP_23 hR1) rfl) rfl hl.1 rfl (Nat.le_of_ble_eq_true rfl) ⟨Nat.zero_le _, Nat.zero_le _⟩ dX3_add_23 (fun H2 locs2 hM2 hG2 => ?_)
  have hR2 := hM2.1
  refine W.eq (g2 := F0 mZ 26 ls []) rfl ?_
  refine lv_aload_n hx hb dX3_add_26 rfl (lv_at hl 1 rfl) ?_
  refine rd_get (own := RX3) (x := .ref (A 24)) S hG2.1 iX3 (rP_5 hR2) 2 rfl (by decide) w3 rfl dX3_add_27 ?_
  refine lv_iload hx hb dX3_add_30 (lv_at hl 0 rfl) ?_
  refine lv_iload_n hx hb dX3_add_32 rfl (lv_at hl 4 rfl) ?_
  refine wr_V (As := [.int (nI (g 5)), .int t]) (rest := []) (v := none) S hA hG2 hM2 (c_X6_put l G A (rowPut (rowPut f 22 (nI (g 5)) x) 23 (nI (g 5)) y) ((g)) H2 hR2 hA 24 (by decide) (nI (g 5)) t) gX3_add_X6_put rfl ⟨rfl, rfl⟩ nmX6_put ⟨Nat.le_of_ble_eq_true rfl, Nat.le_of_ble_eq_true rfl⟩ (rd_rcv hG2.1 (rP_24 hR2) rfl) rfl hl.1 rfl (Nat.le_of_ble_eq_true rfl) ⟨Nat.zero_le _, Nat.zero_le _⟩ dX3_add_33 (fun H3 locs3 hM3 hG3 => ?_)
  have hR3 := hM3.1
  refine W.eq (g2 := F0 mZ 36 ls []) rfl ?_
  refine lv_aload_n hx hb dX3_add_36 rfl (lv_at hl 1 rfl) ?_
  refine rd_get (own := RX3) (x := .ref (A 25)) S hG3.1 iX3 (rP_5 hR3) 3 rfl (by decide) w4 rfl dX3_add_37 ?_
  refine lv_iload hx hb dX3_add_40 (lv_at hl 0 rfl) ?_
  refine lv_iload hx hb dX3_add_42 (lv_at hl 5 rfl) ?_
  refine wr_V (As := [.int (nI (g 5)), .int a]) (rest := []) (v := none) S hA hG3 hM3 (c_X6_put l G A (rowPut (rowPut (rowPut f 22 (nI (g 5)) x) 23 (nI (g 5)) y) 24 (nI (g 5)) t) (((g))) H3 hR3 hA 25 (by decide) (nI (g 5)) a) gX3_add_X6_put rfl ⟨rfl, rfl⟩ nmX6_put ⟨Nat.le_of_ble_eq_true rfl, Nat.le_of_ble_eq_true rfl⟩ (rd_rcv hG3.1 (rP_25 hR3) rfl) rfl hl.1 rfl (Nat.le_of_ble_eq_true rfl) ⟨Nat.zero_le _, Nat.zero_le _⟩ dX3_add_44 (fun H4 locs4 hM4 hG4 => ?_)
  have hR4 := hM4.1
  refine W.eq (g2 := F0 mZ 47 ls []) rfl ?_
  refine lv_aload_n hx hb dX3_add_47 rfl (lv_at hl 1 rfl) ?_
  refine rd_get (own := RX3) (x := .ref (A 26)) S hG4.1 iX3 (rP_5 hR4) 4 rfl (by decide) w5 rfl dX3_add_48 ?_
  refine lv_iload hx hb dX3_add_51 (lv_at hl 0 rfl) ?_
  refine lv_iload hx hb dX3_add_53 (lv_at hl 6 rfl) ?_
  refine wr_V (As := [.int (nI (g 5)), .int b]) (rest := []) (v := none) S hA hG4 hM4 (c_X6_put l G A (rowPut (rowPut (rowPut (rowPut f 22 (nI (g 5)) x) 23 (nI (g 5)) y) 24 (nI (g 5)) t) 25 (nI (g 5)) a) ((((g)))) H4 hR4 hA 26 (by decide) (nI (g 5)) b) gX3_add_X6_put rfl ⟨rfl, rfl⟩ nmX6_put ⟨Nat.le_of_ble_eq_true rfl, Nat.le_of_ble_eq_true rfl⟩ (rd_rcv hG4.1 (rP_26 hR4) rfl) rfl hl.1 rfl (Nat.le_of_ble_eq_true rfl) ⟨Nat.zero_le _, Nat.zero_le _⟩ dX3_add_55 (fun H5 locs5 hM5 hG5 => ?_)
  have hR5 := hM5.1
  refine W.eq (g2 := F0 mZ 58 ls []) rfl ?_
  refine lv_aload_n hx hb dX3_add_58 rfl (lv_at hl 1 rfl) ?_
  refine lv_dup hx hb dX3_add_59 rfl ?_
  refine rd_get (own := RX3) (x := .int (nI ((((((g))))) 5))) S hG5.1 iX3 (rP_5 hR5) 6 rfl (by decide) w0 rfl dX3_add_60 ?_
  refine lv_iconst (v := 1) hx hb dX3_add_63 (by decide) ?_
  refine lv_iadd hx hb dX3_add_64 ?_
  refine W.eq (g2 := F0 mZ 65 ls [.int (nI (((((((g))))) 5) + 1)), .ref (A 5)]) (by rw [nI_1]) ?_
  refine wr_cnt (k := 5) (j := 6) (d := 5) (n := (((((((g))))) 5) + 1)) S hG5 hA hM5 (by decide) rfl rfl (by intro i _ hi; unfold rC; simp [gset, hi]) (by omega) iX3 tyX3 tyX3_ok nmX3 rfl (by decide) w0 rfl (by decide +kernel) (Nat.le_of_ble_eq_true rfl) dX3_add_65 (fun H6 locs6 hM6 hG6 => ?_)
  have hR6 := hM6.1
  refine lv_iload hx hb dX3_add_68 (lv_at hl 0 rfl) ?_
  exact wr_iret S hr hlk dX3_add_70 hM6 (congrArg (fun z => some (Value.int z)) (by first | rfl | (simp only [true_and, ne_eq, not_true_eq_false, not_false_eq_true, and_true, true_and, and_false, false_and, or_true, true_or, or_false, false_or, and_self, or_self, decide_eq_true_eq, ↓reduceIte]; done) | (simp [true_and]; done) | (simp only [true_and, ne_eq, not_true_eq_false, not_false_eq_true, and_true, true_and, and_false, false_and, or_true, true_or, or_false, false_or, and_self, or_self, decide_eq_true_eq, ↓reduceIte])))
theorem nmX3_addCancel : nmV yX3_addCancel RX3 2 := by decide +kernel
set_option maxHeartbeats 1000000 in
set_option maxRecDepth 100000 in
theorem c_X3_addCancel (l : Launch) (G : GT) (A : Nat → Nat) (f : Nat → Nat → Int32) (g : Nat → Nat) (H : Heap) (hR : RP G A f g H) (hA : RA G A) (i d : Int32) (hc5 : g 5 < 16) : WrV l G A H yX3_addCancel wsX3_addCancel { frames := 2, cells := 0, slots := 0, locals := 48 } [.ref (A 5), .int i, .int d] (some (.int (nI (g 5)))) (caAdd f g i d) (gset g 5 (g 5 + 1)) := by
  refine wr_of (cc := cX3_addCancel) (maxL := 4) (ret := (some .int)) (by decide) rfl (Nat.le_of_ble_eq_true rfl) ?_
  intro pZ eZ sZ mZ bZ meZ cZ ls S hr hlk hl hHs hG
  have S : CallFix pZ mZ cZ cX3_addCancel 4 sZ _ wsX3_addCancel RX3 := S
  have hx := S.1
  have hb := S.2.1
  have hown := S.2.2.2.1
  have hts := S.2.2.2.2
  have hl : lv_has ls 4 [(0, .ref (A 5)), (1, .int i), (2, .int d)] := hl
  have w0 := hts (.fieldLink RX3 32 "MinimaRoom$Notices" "cancels" "LMinimaRoom$Row;") (by decide +kernel)
  have iX3 : ∀ w ∈ u_ws RX3 TX3 7, w ∈ wsX3_addCancel := by decide +kernel
  have hM := MS.rf hR
  have hgb := hR.1
  refine lv_aload_n hx hb dX3_addCancel_0 rfl (lv_at hl 0 rfl) ?_
  refine lv_iconst (v := 3) hx hb dX3_addCancel_1 (by decide) ?_
  refine lv_iload_n hx hb dX3_addCancel_2 rfl (lv_at hl 1 rfl) ?_
  refine lv_iconst (v := 0) hx hb dX3_addCancel_3 (by decide) ?_
  refine lv_iload_n hx hb dX3_addCancel_4 rfl (lv_at hl 2 rfl) ?_
  refine lv_iconst (v := (-1)) hx hb dX3_addCancel_5 (by decide) ?_
  refine wr_V (As := [.int 3, .int i, .int 0, .int d, .int (-1)]) (rest := []) (v := some (.int (nI (g 5)))) S hA hG hM (c_X3_add l G A f g H hR hA 3 i 0 d (-1) (by omega)) gX3_addCancel_X3_add rfl ⟨rfl, rfl⟩ nmX3_add ⟨Nat.le_of_ble_eq_true rfl, Nat.le_of_ble_eq_true rfl⟩ (rd_rcv hG.1 (rP_5 hR) rfl) rfl hl.1 rfl (Nat.le_of_ble_eq_true rfl) ⟨Nat.zero_le _, Nat.zero_le _⟩ dX3_addCancel_6 (fun H1 locs1 hM1 hG1 => ?_)
  have hR1 := hM1.1
  refine W.eq (g2 := F0 mZ 9 ls [.int (nI (g 5))]) rfl ?_
  refine lv_istore_n (lv' := [(3, .int (nI (g 5))), (0, .ref (A 5)), (1, .int i), (2, .int d)]) hx hb dX3_addCancel_9 rfl hl (by decide) rfl (fun ls hl => ?_)
  refine lv_aload_n hx hb dX3_addCancel_10 rfl (lv_at hl 1 rfl) ?_
  refine rd_get (own := RX3) (x := .ref (A 27)) S hG1.1 iX3 (rP_5 hR1) 5 rfl (by decide) w0 rfl dX3_addCancel_11 ?_
  refine lv_iload_n hx hb dX3_addCancel_14 rfl (lv_at hl 2 rfl) ?_
  refine rd_V (As := [.int i]) (rest := []) (v := some (.int (rowAt 16 ((noAdd f g 3 i 0 d (-1)) 27) i))) S hG1 (c_X6_at l G H1 (A 27) (A 47) 16 ((noAdd f g 3 i 0 d (-1)) 27) (by decide) (rP_27 hR1) (rP_47 hR1) i) gX3_addCancel_X6_at rfl ⟨rfl, rfl⟩ nmX6_at ⟨Nat.le_of_ble_eq_true rfl, Nat.le_of_ble_eq_true rfl⟩ (rd_rcv hG1.1 (rP_27 hR1) rfl) rfl hl.1 rfl (Nat.le_of_ble_eq_true rfl) ⟨Nat.zero_le _, Nat.zero_le _⟩ dX3_addCancel_15 ?_
  refine W.eq (g2 := F0 mZ 18 ls [.int (rowAt 16 ((noAdd f g 3 i 0 d (-1)) 27) i)]) rfl ?_
  refine lv_iconst (v := (-1)) hx hb dX3_addCancel_18 (by decide) ?_
  refine lv_icmp_ne (tgt := 31) hx hb dX3_addCancel_19 (by decide) (fun c2 => ?_) (fun c2 => ?_)
  · refine lv_iload_n hx hb dX3_addCancel_31 rfl (lv_at hl 0 rfl) ?_
    exact wr_iret S hr hlk dX3_addCancel_32 (by unfold caAdd; rw [if_neg c2]; exact hM1) (congrArg (fun z => some (Value.int z)) (by first | rfl | (simp only [c2, ne_eq, not_true_eq_false, not_false_eq_true, and_true, true_and, and_false, false_and, or_true, true_or, or_false, false_or, and_self, or_self, decide_eq_true_eq, ↓reduceIte]; done) | (simp [c2]; done) | (simp only [c2, ne_eq, not_true_eq_false, not_false_eq_true, and_true, true_and, and_false, false_and, or_true, true_or, or_false, false_or, and_self, or_self, decide_eq_true_eq, ↓reduceIte])))
  · refine lv_aload_n hx hb dX3_addCancel_22 rfl (lv_at hl 1 rfl) ?_
    refine rd_get (own := RX3) (x := .ref (A 27)) S hG1.1 iX3 (rP_5 hR1) 5 rfl (by decide) w0 rfl dX3_addCancel_23 ?_
    refine lv_iload_n hx hb dX3_addCancel_26 rfl (lv_at hl 2 rfl) ?_
    refine lv_iload_n hx hb dX3_addCancel_27 rfl (lv_at hl 0 rfl) ?_
    refine wr_V (As := [.int i, .int (nI (g 5))]) (rest := []) (v := none) S hA hG1 hM1 (c_X6_put l G A (noAdd f g 3 i 0 d (-1)) (gset g 5 (g 5 + 1)) H1 hR1 hA 27 (by decide) i (nI (g 5))) gX3_addCancel_X6_put rfl ⟨rfl, rfl⟩ nmX6_put ⟨Nat.le_of_ble_eq_true rfl, Nat.le_of_ble_eq_true rfl⟩ (rd_rcv hG1.1 (rP_27 hR1) rfl) rfl hl.1 rfl (Nat.le_of_ble_eq_true rfl) ⟨Nat.zero_le _, Nat.zero_le _⟩ dX3_addCancel_28 (fun H3 locs3 hM3 hG3 => ?_)
    have hR3 := hM3.1
    refine W.eq (g2 := F0 mZ 31 ls []) rfl ?_
    refine lv_iload_n hx hb dX3_addCancel_31 rfl (lv_at hl 0 rfl) ?_
    exact wr_iret S hr hlk dX3_addCancel_32 (by unfold caAdd; rw [if_pos c2]; exact hM3) (congrArg (fun z => some (Value.int z)) (by first | rfl | (simp only [c2, ne_eq, not_true_eq_false, not_false_eq_true, and_true, true_and, and_false, false_and, or_true, true_or, or_false, false_or, and_self, or_self, decide_eq_true_eq, ↓reduceIte]; done) | (simp [c2]; done) | (simp only [c2, ne_eq, not_true_eq_false, not_false_eq_true, and_true, true_and, and_false, false_and, or_true, true_or, or_false, false_or, and_self, or_self, decide_eq_true_eq, ↓reduceIte])))
