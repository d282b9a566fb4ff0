set_option maxHeartbeats 1000000 in
set_option maxRecDepth 100000 in
theorem c_X7_amend (l : Launch) (G : GT) (hlf : l.stackTraces = false) (A : Nat → Nat) (f : Nat → Nat → Int32) (g : Nat → Nat) (H : Heap) (hR : RP G A f g H) (hA : RA G A) (i : Int32) (hg0 : g 0 ≤ 399) : WxV l G A H yX7_amend wsX7_amend { frames := 7, cells := 1, slots := 6, locals := 103 } [.ref (A 0), .int i] (kOr (koIx i (g 3)) (if 20 ≤ nI (g 4) ∨ 399 < nI (frN g) then some xISE else none)) (some (.int (amH f g i))) (amAdd f g i (nI (frN g)) (amH f g i)) (gset g 4 (g 4 + 1)) := by
  refine wx_of (cc := cX7_amend) (maxL := 5) (ret := (some .int)) (by decide) rfl (Nat.le_of_ble_eq_true rfl) ?_
  intro pZ eZ sZ mZ bZ meZ cZ ls S hr hlk hxt hl hHs hG
  have S : CallFix pZ mZ cZ cX7_amend 5 sZ _ wsX7_amend RX7 := S
  have hx := S.1
  have hb := S.2.1
  have hown := S.2.2.2.1
  have hts := S.2.2.2.2
  have hl : lv_has ls 5 [(0, .ref (A 0)), (1, .int i)] := hl
  have w0 := hts (.fieldLink RX7 51 "MinimaRoom" "now" "I") (by decide +kernel)
  have w1 := hts (.fieldLink RX7 33 "MinimaRoom" "amendments" "LMinimaRoom$Amendments;") (by decide +kernel)
  have iX7 : ∀ w ∈ u_ws RX7 TX7 8, w ∈ wsX7_amend := by decide +kernel
  have iX1 : ∀ w ∈ u_ws RX1 TX1 4, w ∈ wsX7_amend := by decide +kernel
  have m_max_98 : [.methodLink RX7 98 Lib.Math.max.name, .static Lib.Math.max.name, .initialized "java/lang/Math", .code Lib.Math.max.name Lib.Math.max.code 2 (some .int)] ⊆ wsX7_amend := by decide +kernel
  have hxk_ISE : Cond.classLink RX7 69 xISE ∈ wsX7_amend := by decide +kernel
  have hxi_ISE : Cond.initialized xISE ∈ wsX7_amend := by decide +kernel
  have hx1_ISE : ∀ w ∈ (vx_atS RX7 73 xISE xUp).filter goodWord, w ∈ wsX7_amend := by decide +kernel
  have hM := MS.rf hR
  have hgb := hR.1
  have hg4 := hgb 4
  have hfr := frN_le hg0
  refine lv_aload_n hx hb dX7_amend_0 rfl (lv_at hl 0 rfl) ?_
  refine lv_iload_n hx hb dX7_amend_1 rfl (lv_at hl 1 rfl) ?_
  refine rx_V (As := [.int i]) (rest := []) (v := none) S hG (c_X7_requireProcedure l G hlf A f g H hR i) gX7_amend_X7_requireProcedure rfl ⟨rfl, rfl⟩ nmX7_requireProcedure ⟨Nat.le_of_ble_eq_true rfl, Nat.le_of_ble_eq_true rfl⟩ (rd_rcv hG.1 (rP_0 hR) rfl) rfl hl.1 rfl (Nat.le_of_ble_eq_true rfl) ⟨Nat.le_of_ble_eq_true rfl, Nat.le_of_ble_eq_true rfl⟩ dX7_amend_2 hxt hlk ⟨Nat.le_of_ble_eq_true rfl, Nat.le_of_ble_eq_true rfl⟩ (fun E t hE hext => ⟨by first | rfl | (simp only [amH, hE, kOr, ne_eq, not_true_eq_false, not_false_eq_true, and_true, true_and, and_false, false_and, or_true, true_or, or_false, false_or, and_self, or_self, decide_eq_true_eq, ↓reduceIte]; done) | (simp only [amH, hE, kOr, ne_eq, not_true_eq_false, not_false_eq_true, and_true, true_and, and_false, false_and, or_true, true_or, or_false, false_or, and_self, or_self, decide_eq_true_eq, ↓reduceIte]; done) | (simp [amH, hE, kOr]; done) | (simp only [amH, hE, kOr, ne_eq, not_true_eq_false, not_false_eq_true, and_true, true_and, and_false, false_and, or_true, true_or, or_false, false_or, and_self, or_self, decide_eq_true_eq, ↓reduceIte]), hext⟩) (fun k1 => ?_)
  refine W.eq (g2 := F0 mZ 5 ls []) rfl ?_
  refine lv_aload_n hx hb dX7_amend_5 rfl (lv_at hl 0 rfl) ?_
  refine rd_get (own := RX7) (x := .int (nI (g 0))) S hG.1 iX7 (rP_0 hR) 6 rfl (by decide) w0 rfl dX7_amend_6 ?_
  refine lv_bipush (v := 14) hx hb dX7_amend_9 (by decide) ?_
  refine lv_iadd hx hb dX7_amend_11 ?_
  refine lv_bipush (v := 28) hx hb dX7_amend_12 (by decide) ?_
  refine lv_iadd hx hb dX7_amend_14 ?_
  refine lv_iconst (v := 1) hx hb dX7_amend_15 (by decide) ?_
  refine lv_isub hx hb dX7_amend_16 ?_
  refine lv_bipush (v := 28) hx hb dX7_amend_17 (by decide) ?_
  refine lv_idiv hx hb dX7_amend_19 (by decide) ?_
  refine lv_bipush (v := 28) hx hb dX7_amend_20 (by decide) ?_
  refine lv_imul hx hb dX7_amend_22 ?_
  refine W.eq (g2 := F0 mZ 23 ls [.int (nI (frN g))]) (congrArg (fun z => F0 mZ 23 ls [Value.int z]) (fr_eq hg0)) ?_
  refine lv_istore_n (lv' := [(2, .int (nI (frN g))), (0, .ref (A 0)), (1, .int i)]) hx hb dX7_amend_23 rfl hl (by decide) rfl (fun ls hl => ?_)
  refine lv_aload_n hx hb dX7_amend_24 rfl (lv_at hl 1 rfl) ?_
  refine rd_get (own := RX7) (x := .ref (A 4)) S hG.1 iX7 (rP_0 hR) 3 rfl (by decide) w1 rfl dX7_amend_25 ?_
  refine rd_getN (own := RX7) (x := .int (nI (g 4))) S hG.1 iX1 (rP_4 hR) 3 rfl (by decide) nest_143 rfl dX7_amend_28 ?_
  refine lv_bipush (v := 20) hx hb dX7_amend_31 (by decide) ?_
  refine lv_icmp_ge (tgt := 43) hx hb dX7_amend_33 (by decide) (fun c2 => ?_) (fun c2 => ?_)
  · have d2 := Int32.not_lt.mpr c2
    exact rx_thS (text := "no amendment can be made") (rest := []) S hHs hlf hG hl.1 hxt hlk hxk_ISE hxi_ISE rfl (by decide) hx1_ISE at_ISE ot_ISE dX7_amend_43 dX7_amend_46 dX7_amend_47 dX7_amend_49 dX7_amend_52 ⟨by decide, Nat.le_of_ble_eq_true rfl, Nat.le_of_ble_eq_true rfl, Nat.le_of_ble_eq_true rfl⟩ ⟨Nat.le_of_ble_eq_true rfl, Nat.le_of_ble_eq_true rfl⟩ (fun t hext => ⟨by first | rfl | (simp only [amH, k1, kOr, ne_eq, not_true_eq_false, not_false_eq_true, and_true, true_and, and_false, false_and, or_true, true_or, or_false, false_or, and_self, or_self, decide_eq_true_eq, ↓reduceIte]; done) | (simp only [amH, k1, c2, d2, kOr, ne_eq, not_true_eq_false, not_false_eq_true, and_true, true_and, and_false, false_and, or_true, true_or, or_false, false_or, and_self, or_self, decide_eq_true_eq, ↓reduceIte]; done) | (simp [amH, k1, c2, d2, kOr]; done) | (simp only [amH, k1, c2, d2, kOr, ne_eq, not_true_eq_false, not_false_eq_true, and_true, true_and, and_false, false_and, or_true, true_or, or_false, false_or, and_self, or_self, decide_eq_true_eq, ↓reduceIte]), hext⟩)
  · have d2 := Int32.not_le.mp c2
    refine lv_iload_n hx hb dX7_amend_36 rfl (lv_at hl 0 rfl) ?_
    refine lv_sipush (v := 399) hx hb dX7_amend_37 (by decide) ?_
    refine lv_icmp_le (tgt := 53) hx hb dX7_amend_40 (by decide) (fun c3 => ?_) (fun c3 => ?_)
    · have d3 := Int32.not_lt.mpr c3
      refine lv_iconst (v := 0) hx hb dX7_amend_53 (by decide) ?_
      refine lv_istore_n (lv' := [(3, .int 0), (2, .int (nI (frN g))), (0, .ref (A 0)), (1, .int i)]) hx hb dX7_amend_54 rfl hl (by decide) rfl (fun ls hl => ?_)
      refine lv_iload_n hx hb dX7_amend_55 rfl (lv_at hl 1 rfl) ?_
      refine lv_istore (lv' := [(4, .int (nI (frN g))), (3, .int 0), (2, .int (nI (frN g))), (0, .ref (A 0)), (1, .int i)]) hx hb dX7_amend_56 hl (by decide) rfl (fun ls hl => ?_)
      have loop58 : ∀ (n58 k58 : Nat), k58 + n58 = min 28 (400 - frN g) → ∀ (z58_3 : Int32), z58_3 = fl k58 (fun j h => imax h (lH f g i (nI (frN g + j)) (-1))) 0 → ∀ (ls : Array Slot), lv_has ls 5 [(4, .int (nI (frN g + k58))), (3, .int z58_3), (0, .ref (A 0)), (1, .int i), (2, .int (nI (frN g)))] → W pZ l eZ ({ frames := 7, cells := 1, slots := 6, locals := 103 } : Room) sZ mZ ([.ref (A 0), .int i] : List Value).toArray bZ meZ cZ H [] 0 0 (wx_Q bZ A G H [.ref (A 0), .int i] sZ (kOr (koIx i (g 3)) (if 20 ≤ nI (g 4) ∨ 399 < nI (frN g) then some xISE else none)) (some (.int (amH f g i))) (amAdd f g i (nI (frN g)) (amH f g i)) (gset g 4 (g 4 + 1))) (F0 mZ 58 ls []) := by
        intro n58
        induction n58 with
        | zero =>
          intro k58 hk58 z58_3 ez58_3 ls hl
          obtain rfl : k58 = min 28 (400 - frN g) := by omega
          refine lv_iload hx hb dX7_amend_58 (lv_at hl 0 rfl) ?_
          refine lv_iload_n hx hb dX7_amend_60 rfl (lv_at hl 4 rfl) ?_
          refine lv_bipush (v := 28) hx hb dX7_amend_61 (by decide) ?_
          refine lv_iadd hx hb dX7_amend_63 ?_
          refine W.eq (g2 := F0 mZ 64 ls [.int (nI (frN g + 28)), .int (nI (frN g + (min 28 (400 - frN g))))]) (congrArg (fun z => F0 mZ 64 ls [Value.int z, .int (nI (frN g + (min 28 (400 - frN g))))]) (nI_add (frN g) 28)) ?_
          refine lv_icmp_ge (tgt := 94) hx hb dX7_amend_64 (by decide) (fun c4 => ?_) (fun c4 => ?_)
          · have d4 := Int32.not_lt.mpr c4
            have hc4 : g 4 < 20 := (nI_ltI (b := 20) (by omega) (by decide)).mp (Int32.not_le.mp c2)
            refine lv_aload_n hx hb dX7_amend_94 rfl (lv_at hl 2 rfl) ?_
            refine rd_get (own := RX7) (x := .ref (A 4)) S hG.1 iX7 (rP_0 hR) 3 rfl (by decide) w1 rfl dX7_amend_95 ?_
            refine lv_iload_n hx hb dX7_amend_98 rfl (lv_at hl 3 rfl) ?_
            refine lv_iload_n hx hb dX7_amend_99 rfl (lv_at hl 4 rfl) ?_
            refine lv_iload_n hx hb dX7_amend_100 rfl (lv_at hl 1 rfl) ?_
            refine wr_V (As := [.int i, .int (nI (frN g)), .int z58_3]) (rest := []) (v := none) S hA hG hM (c_X1_add l G A f g H hR hA i (nI (frN g)) z58_3 (by omega)) gX7_amend_X1_add rfl ⟨rfl, rfl⟩ nmX1_add ⟨Nat.le_of_ble_eq_true rfl, Nat.le_of_ble_eq_true rfl⟩ (rd_rcv hG.1 (rP_4 hR) rfl) rfl hl.1 rfl (Nat.le_of_ble_eq_true rfl) ⟨Nat.zero_le _, Nat.zero_le _⟩ dX7_amend_101 (fun H5 locs5 hM5 hG5 => ?_)
            have hR5 := hM5.1
            refine W.eq (g2 := F0 mZ 104 ls []) rfl ?_
            refine lv_iload_n hx hb dX7_amend_104 rfl (lv_at hl 1 rfl) ?_
            exact wx_iret S hr hlk dX7_amend_105 (by subst ez58_3; first | rfl | (simp only [amH, k1, kOr, ne_eq, not_true_eq_false, not_false_eq_true, and_true, true_and, and_false, false_and, or_true, true_or, or_false, false_or, and_self, or_self, decide_eq_true_eq, ↓reduceIte]; done) | (simp only [amH, k1, c2, d2, c3, d3, c4, d4, kOr, ne_eq, not_true_eq_false, not_false_eq_true, and_true, true_and, and_false, false_and, or_true, true_or, or_false, false_or, and_self, or_self, decide_eq_true_eq, ↓reduceIte]; done) | (simp [amH, k1, c2, d2, c3, d3, c4, d4, kOr]; done) | (simp only [amH, k1, c2, d2, c3, d3, c4, d4, kOr, ne_eq, not_true_eq_false, not_false_eq_true, and_true, true_and, and_false, false_and, or_true, true_or, or_false, false_or, and_self, or_self, decide_eq_true_eq, ↓reduceIte])) (by subst ez58_3; exact hM5) (congrArg (fun z => some (Value.int z)) (by subst ez58_3; first | rfl | (simp only [amH, k1, c2, d2, c3, d3, c4, d4, ne_eq, not_true_eq_false, not_false_eq_true, and_true, true_and, and_false, false_and, or_true, true_or, or_false, false_or, and_self, or_self, decide_eq_true_eq, ↓reduceIte]; done) | (simp [amH, k1, c2, d2, c3, d3, c4, d4]; done) | (simp only [amH, k1, c2, d2, c3, d3, c4, d4, ne_eq, not_true_eq_false, not_false_eq_true, and_true, true_and, and_false, false_and, or_true, true_or, or_false, false_or, and_self, or_self, decide_eq_true_eq, ↓reduceIte])))
          · have d4 := Int32.not_le.mp c4
            refine lv_iload hx hb dX7_amend_67 (lv_at hl 0 rfl) ?_
            refine lv_sipush (v := 399) hx hb dX7_amend_69 (by decide) ?_
            refine lv_icmp_gt (tgt := 94) hx hb dX7_amend_72 (by decide) (fun c6 => ?_) (fun c6 => ?_)
            · have d6 := Int32.not_le.mpr c6
              have hc4 : g 4 < 20 := (nI_ltI (b := 20) (by omega) (by decide)).mp (Int32.not_le.mp c2)
              refine lv_aload_n hx hb dX7_amend_94 rfl (lv_at hl 2 rfl) ?_
              refine rd_get (own := RX7) (x := .ref (A 4)) S hG.1 iX7 (rP_0 hR) 3 rfl (by decide) w1 rfl dX7_amend_95 ?_
              refine lv_iload_n hx hb dX7_amend_98 rfl (lv_at hl 3 rfl) ?_
              refine lv_iload_n hx hb dX7_amend_99 rfl (lv_at hl 4 rfl) ?_
              refine lv_iload_n hx hb dX7_amend_100 rfl (lv_at hl 1 rfl) ?_
              refine wr_V (As := [.int i, .int (nI (frN g)), .int z58_3]) (rest := []) (v := none) S hA hG hM (c_X1_add l G A f g H hR hA i (nI (frN g)) z58_3 (by omega)) gX7_amend_X1_add rfl ⟨rfl, rfl⟩ nmX1_add ⟨Nat.le_of_ble_eq_true rfl, Nat.le_of_ble_eq_true rfl⟩ (rd_rcv hG.1 (rP_4 hR) rfl) rfl hl.1 rfl (Nat.le_of_ble_eq_true rfl) ⟨Nat.zero_le _, Nat.zero_le _⟩ dX7_amend_101 (fun H7 locs7 hM7 hG7 => ?_)
              have hR7 := hM7.1
              refine W.eq (g2 := F0 mZ 104 ls []) rfl ?_
              refine lv_iload_n hx hb dX7_amend_104 rfl (lv_at hl 1 rfl) ?_
              exact wx_iret S hr hlk dX7_amend_105 (by subst ez58_3; first | rfl | (simp only [amH, k1, kOr, ne_eq, not_true_eq_false, not_false_eq_true, and_true, true_and, and_false, false_and, or_true, true_or, or_false, false_or, and_self, or_self, decide_eq_true_eq, ↓reduceIte]; done) | (simp only [amH, k1, c2, d2, c3, d3, c4, d4, c6, d6, kOr, ne_eq, not_true_eq_false, not_false_eq_true, and_true, true_and, and_false, false_and, or_true, true_or, or_false, false_or, and_self, or_self, decide_eq_true_eq, ↓reduceIte]; done) | (simp [amH, k1, c2, d2, c3, d3, c4, d4, c6, d6, kOr]; done) | (simp only [amH, k1, c2, d2, c3, d3, c4, d4, c6, d6, kOr, ne_eq, not_true_eq_false, not_false_eq_true, and_true, true_and, and_false, false_and, or_true, true_or, or_false, false_or, and_self, or_self, decide_eq_true_eq, ↓reduceIte])) (by subst ez58_3; exact hM7) (congrArg (fun z => some (Value.int z)) (by subst ez58_3; first | rfl | (simp only [amH, k1, c2, d2, c3, d3, c4, d4, c6, d6, ne_eq, not_true_eq_false, not_false_eq_true, and_true, true_and, and_false, false_and, or_true, true_or, or_false, false_or, and_self, or_self, decide_eq_true_eq, ↓reduceIte]; done) | (simp [amH, k1, c2, d2, c3, d3, c4, d4, c6, d6]; done) | (simp only [amH, k1, c2, d2, c3, d3, c4, d4, c6, d6, ne_eq, not_true_eq_false, not_false_eq_true, and_true, true_and, and_false, false_and, or_true, true_or, or_false, false_or, and_self, or_self, decide_eq_true_eq, ↓reduceIte])))
            · exact absurd (nI_lt (a := 399) (by have q := (nI_ltI (by omega) (by omega)).mp d4; omega) (by omega)) c6
        | succ n58 ih58 =>
          intro k58 hk58 z58_3 ez58_3 ls hl
          refine lv_iload hx hb dX7_amend_58 (lv_at hl 0 rfl) ?_
          refine lv_iload_n hx hb dX7_amend_60 rfl (lv_at hl 4 rfl) ?_
          refine lv_bipush (v := 28) hx hb dX7_amend_61 (by decide) ?_
          refine lv_iadd hx hb dX7_amend_63 ?_
          refine W.eq (g2 := F0 mZ 64 ls [.int (nI (frN g + 28)), .int (nI (frN g + k58))]) (congrArg (fun z => F0 mZ 64 ls [Value.int z, .int (nI (frN g + k58))]) (nI_add (frN g) 28)) ?_
          refine lv_icmp_ge (tgt := 94) hx hb dX7_amend_64 (by decide) (fun c8 => ?_) (fun c8 => ?_)
          · exact absurd c8 (nI_ge (by omega) (by omega))
          · have d8 := Int32.not_le.mp c8
            refine lv_iload hx hb dX7_amend_67 (lv_at hl 0 rfl) ?_
            refine lv_sipush (v := 399) hx hb dX7_amend_69 (by decide) ?_
            refine lv_icmp_gt (tgt := 94) hx hb dX7_amend_72 (by decide) (fun c9 => ?_) (fun c9 => ?_)
            · have c9 : nI 399 < nI (frN g + k58) := c9; exact absurd c9 (nI_nlt (by omega) (by omega))
            · have d9 := Int32.not_lt.mp c9
              refine lv_iload_n hx hb dX7_amend_75 rfl (lv_at hl 1 rfl) ?_
              refine lv_aload_n hx hb dX7_amend_76 rfl (lv_at hl 2 rfl) ?_
              refine lv_iload_n hx hb dX7_amend_77 rfl (lv_at hl 3 rfl) ?_
              refine lv_iload hx hb dX7_amend_78 (lv_at hl 0 rfl) ?_
              refine lv_iconst (v := (-1)) hx hb dX7_amend_80 (by decide) ?_
              refine rd_V (As := [.int i, .int (nI (frN g + k58)), .int (-1)]) (rest := [.int z58_3]) (v := some (.int (lH f g i (nI (frN g + k58)) (-1)))) S hG (c_X7_leastHeight l G A f g H hR i (nI (frN g + k58)) (-1)) gX7_amend_X7_leastHeight rfl ⟨rfl, rfl⟩ nmX7_leastHeight ⟨Nat.le_of_ble_eq_true rfl, Nat.le_of_ble_eq_true rfl⟩ (rd_rcv hG.1 (rP_0 hR) rfl) rfl hl.1 rfl (Nat.le_of_ble_eq_true rfl) ⟨Nat.zero_le _, Nat.zero_le _⟩ dX7_amend_81 ?_
              refine W.eq (g2 := F0 mZ 84 ls [.int (lH f g i (nI (frN g + k58)) (-1)), .int z58_3]) rfl ?_
              refine rd_max S hl.1 m_max_98 ⟨Nat.le_of_ble_eq_true rfl, Nat.le_of_ble_eq_true rfl⟩ (Nat.le_of_ble_eq_true rfl) ⟨Nat.zero_le _, Nat.zero_le _⟩ dX7_amend_84 ?_
              refine W.eq (g2 := F0 mZ 87 ls [.int (imax z58_3 (lH f g i (nI (frN g + k58)) (-1)))]) rfl ?_
              refine lv_topi (fun x10 ex10 => ?_)
              refine lv_istore_n (lv' := [(3, .int x10), (4, .int (nI (frN g + k58))), (0, .ref (A 0)), (1, .int i), (2, .int (nI (frN g)))]) hx hb dX7_amend_87 rfl hl (by decide) rfl (fun ls hl => ?_)
              refine lv_iinc (v := nI ((frN g + k58) + 1)) (lv' := [(4, .int (nI ((frN g + k58) + 1))), (3, .int x10), (0, .ref (A 0)), (1, .int i), (2, .int (nI (frN g)))]) hx hb dX7_amend_88 hl (k := 1) rfl (nI_inc _) (by decide) rfl (fun ls hl => ?_)
              refine lv_goto (tgt := 58) hx hb dX7_amend_91 (by decide) ?_
              exact ih58 (k58 + 1) (by omega) _ (by subst ex10; subst ez58_3; first | rfl | (simp only [fl, amH, k1, c2, d2, c3, d3, c8, d8, c9, d9, ne_eq, not_true_eq_false, not_false_eq_true, and_true, true_and, and_false, false_and, or_true, true_or, or_false, false_or, and_self, or_self, decide_eq_true_eq, ↓reduceIte]; done) | (simp [fl, amH, k1, c2, d2, c3, d3, c8, d8, c9, d9]; done) | (simp only [fl, amH, k1, c2, d2, c3, d3, c8, d8, c9, d9, ne_eq, not_true_eq_false, not_false_eq_true, and_true, true_and, and_false, false_and, or_true, true_or, or_false, false_or, and_self, or_self, decide_eq_true_eq, ↓reduceIte])) ls (lv_sub hl [0, 1, 2, 3, 4] rfl)
      exact loop58 (min 28 (400 - frN g)) 0 (by omega) _ (by first | rfl | first | rfl | (simp only [fl, amH, k1, c2, d2, c3, d3, ne_eq, not_true_eq_false, not_false_eq_true, and_true, true_and, and_false, false_and, or_true, true_or, or_false, false_or, and_self, or_self, decide_eq_true_eq, ↓reduceIte]; done) | (simp [fl, amH, k1, c2, d2, c3, d3]; done) | (simp only [fl, amH, k1, c2, d2, c3, d3, ne_eq, not_true_eq_false, not_false_eq_true, and_true, true_and, and_false, false_and, or_true, true_or, or_false, false_or, and_self, or_self, decide_eq_true_eq, ↓reduceIte])) ls (lv_sub hl [0, 1, 3, 4, 2] rfl)
    · have d3 := Int32.not_le.mp c3
      exact rx_thS (text := "no amendment can be made") (rest := []) S hHs hlf hG hl.1 hxt hlk hxk_ISE hxi_ISE rfl (by decide) hx1_ISE at_ISE ot_ISE dX7_amend_43 dX7_amend_46 dX7_amend_47 dX7_amend_49 dX7_amend_52 ⟨by decide, Nat.le_of_ble_eq_true rfl, Nat.le_of_ble_eq_true rfl, Nat.le_of_ble_eq_true rfl⟩ ⟨Nat.le_of_ble_eq_true rfl, Nat.le_of_ble_eq_true rfl⟩ (fun t hext => ⟨by first | rfl | (simp only [amH, k1, kOr, ne_eq, not_true_eq_false, not_false_eq_true, and_true, true_and, and_false, false_and, or_true, true_or, or_false, false_or, and_self, or_self, decide_eq_true_eq, ↓reduceIte]; done) | (simp only [amH, k1, c2, d2, c3, d3, kOr, ne_eq, not_true_eq_false, not_false_eq_true, and_true, true_and, and_false, false_and, or_true, true_or, or_false, false_or, and_self, or_self, decide_eq_true_eq, ↓reduceIte]; done) | (simp [amH, k1, c2, d2, c3, d3, kOr]; done) | (simp only [amH, k1, c2, d2, c3, d3, kOr, ne_eq, not_true_eq_false, not_false_eq_true, and_true, true_and, and_false, false_and, or_true, true_or, or_false, false_or, and_self, or_self, decide_eq_true_eq, ↓reduceIte]), hext⟩)
