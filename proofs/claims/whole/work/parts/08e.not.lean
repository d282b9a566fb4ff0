theorem nmX11_noticed : nmV yX11_noticed RX11 4 := by decide +kernel

set_option maxHeartbeats 1000000 in
set_option maxRecDepth 100000 in
theorem c_X11_noticed (l : Launch) (G : GT) (B : Nat → Nat) (th : Int32) (mc : Nat → Int32) (cp : Nat → Nat) (f : Nat → Nat → Int32) (g : Nat → Nat) (H : Heap) (hM : MP G B th mc cp f g H) (i : Nat) (d : Int32) (ch : Int32) (bb : Nat) (hi : i < g 3) (hbb : bb ≤ g 5) : RdV l G H yX11_noticed wsX11_noticed { frames := 4, cells := 0, slots := 0, locals := 89 } [.ref (B 0), .int (nI i), .int d, .int ch, .int (nI bb)] (some (.int (mNo f i d ch bb))) := by
  refine rd_of (cc := cX11_noticed) (maxL := 8) (ret := (some .int)) (by decide) rfl (Nat.le_of_ble_eq_true rfl) ?_
  intro pZ eZ sZ mZ bZ meZ cZ ls S hr hlk hl hHs hG
  have S : CallFix pZ mZ cZ cX11_noticed 8 sZ _ wsX11_noticed RX11 := S
  have hx := S.1
  have hb := S.2.1
  have hown := S.2.2.2.1
  have hts := S.2.2.2.2
  have hl : lv_has ls 8 [(0, .ref (B 0)), (1, .int (nI i)), (2, .int d), (3, .int ch), (4, .int (nI bb))] := hl
  have w0 := hts (.fieldLink RX11 26 "MinimaRoomModel" "notices" "Ljava/util/ArrayList;") (by decide +kernel)
  have w1 := hts (.classLink RX11 102 "MinimaRoomModel$Notice") (by decide +kernel)
  have w2 := hts (.fieldLink RX11 104 "MinimaRoomModel$Notice" "kind" "I") (by decide +kernel)
  have w3 := hts (.fieldLink RX11 113 "MinimaRoomModel$Notice" "of" "I") (by decide +kernel)
  have w4 := hts (.fieldLink RX11 119 "MinimaRoomModel$Notice" "by" "I") (by decide +kernel)
  have w5 := hts (.fieldLink RX11 23 "MinimaRoomModel" "procedures" "Ljava/util/ArrayList;") (by decide +kernel)
  have w6 := hts (.classLink RX11 59 "MinimaRoomModel$Procedure") (by decide +kernel)
  have w7 := hts (.fieldLink RX11 61 "MinimaRoomModel$Procedure" "aid" "I") (by decide +kernel)
  have iX11 : ∀ w ∈ u_ws RX11 TX11 11, w ∈ wsX11_noticed := by decide +kernel
  have iX8 : ∀ w ∈ u_ws RX8 TX8 5, w ∈ wsX11_noticed := by decide +kernel
  have iX10 : ∀ w ∈ u_ws RX10 TX10 3, w ∈ wsX11_noticed := by decide +kernel
  have m_max_86 : [.methodLink RX11 86 Lib.Math.max.name, .static Lib.Math.max.name, .initialized "java/lang/Math", .code Lib.Math.max.name Lib.Math.max.code 2 (some .int)] ⊆ wsX11_noticed := by decide +kernel
  have hI := hM.1
  have hgb := hI.1.1
  have hg0 := hI.1.2.1
  have hg1 := hI.1.2.2.1
  have hg3 := hI.1.2.2.2.1
  have hg4 := hI.1.2.2.2.2.1
  have hg5 := hI.1.2.2.2.2.2
  refine lv_iconst (v := 0) hx hb dX11_noticed_0 (by decide) ?_
  refine lv_istore (lv' := [(5, .int 0), (0, .ref (B 0)), (1, .int (nI i)), (2, .int d), (3, .int ch), (4, .int (nI bb))]) hx hb dX11_noticed_1 hl (by decide) rfl (fun ls hl => ?_)
  refine lv_iconst (v := 0) hx hb dX11_noticed_3 (by decide) ?_
  refine lv_istore (lv' := [(6, .int 0), (5, .int 0), (0, .ref (B 0)), (1, .int (nI i)), (2, .int d), (3, .int ch), (4, .int (nI bb))]) hx hb dX11_noticed_4 hl (by decide) rfl (fun ls hl => ?_)
  have loop6 : ∀ (n6 k6 : Nat), k6 + n6 = bb → ∀ (z6_5 : Int32),  mNo f i d ch bb = mNL f i d ch bb n6 k6 z6_5 → ∀ (ls : Array Slot), lv_has ls 8 [(6, .int (nI k6)), (5, .int z6_5), (0, .ref (B 0)), (1, .int (nI i)), (2, .int d), (3, .int ch), (4, .int (nI bb))] → W pZ l eZ ({ frames := 4, cells := 0, slots := 0, locals := 89 } : Room) sZ mZ ([.ref (B 0), .int (nI i), .int d, .int ch, .int (nI bb)] : List Value).toArray bZ meZ cZ H [] 0 0 (rd_Q bZ H [.ref (B 0), .int (nI i), .int d, .int ch, .int (nI bb)] sZ (some (.int (mNo f i d ch bb)))) (F0 mZ 6 ls []) := by
    intro n6
    induction n6 with
    | zero =>
      intro k6 hk6 z6_5 inv6 ls hl
      obtain rfl : k6 = bb := by omega
      refine lv_iload hx hb dX11_noticed_6 (lv_at hl 0 rfl) ?_
      refine lv_iload hx hb dX11_noticed_8 (lv_at hl 6 rfl) ?_
      refine lv_icmp_ge (tgt := 128) hx hb dX11_noticed_10 (by decide) (fun c1 => ?_) (fun c1 => ?_)
      · have d1 := Int32.not_lt.mpr c1
        refine lv_iload_n hx hb dX11_noticed_128 rfl (lv_at hl 5 rfl) ?_
        refine lv_iconst (v := (-1)) hx hb dX11_noticed_129 (by decide) ?_
        refine lv_icmp_ne (tgt := 137) hx hb dX11_noticed_130 (by decide) (fun c2 => ?_) (fun c2 => ?_)
        · refine lv_iload_n hx hb dX11_noticed_137 rfl (lv_at hl 5 rfl) ?_
          refine lv_iload hx hb dX11_noticed_138 (lv_at hl 1 rfl) ?_
          refine lv_iadd hx hb dX11_noticed_140 ?_
          exact rd_iret S hr hlk dX11_noticed_141 (congrArg (fun z => some (Value.int z)) (by exact inv6.trans (by first | rfl | (simp only [mNL, c1, d1, c2, ne_eq, not_true_eq_false, not_false_eq_true, and_true, true_and, and_false, false_and, or_true, true_or, or_false, false_or, and_self, or_self, decide_eq_true_eq, ↓reduceIte]; done) | (simp [mNL, c1, d1, c2]; done) | (simp only [mNL, c1, d1, c2, ne_eq, not_true_eq_false, not_false_eq_true, and_true, true_and, and_false, false_and, or_true, true_or, or_false, false_or, and_self, or_self, decide_eq_true_eq, ↓reduceIte]))))
        · refine lv_iconst (v := (-1)) hx hb dX11_noticed_133 (by decide) ?_
          refine lv_goto (tgt := 141) hx hb dX11_noticed_134 (by decide) ?_
          exact rd_iret S hr hlk dX11_noticed_141 (congrArg (fun z => some (Value.int z)) (by exact inv6.trans (by first | rfl | (simp only [mNL, c1, d1, c2, ne_eq, not_true_eq_false, not_false_eq_true, and_true, true_and, and_false, false_and, or_true, true_or, or_false, false_or, and_self, or_self, decide_eq_true_eq, ↓reduceIte]; done) | (simp [mNL, c1, d1, c2]; done) | (simp only [mNL, c1, d1, c2, ne_eq, not_true_eq_false, not_false_eq_true, and_true, true_and, and_false, false_and, or_true, true_or, or_false, false_or, and_self, or_self, decide_eq_true_eq, ↓reduceIte]))))
      · exact absurd (nI_le (by omega) (by omega)) c1
    | succ n6 ih6 =>
      intro k6 hk6 z6_5 inv6 ls hl
      refine lv_iload hx hb dX11_noticed_6 (lv_at hl 0 rfl) ?_
      refine lv_iload hx hb dX11_noticed_8 (lv_at hl 6 rfl) ?_
      refine lv_icmp_ge (tgt := 128) hx hb dX11_noticed_10 (by decide) (fun c3 => ?_) (fun c3 => ?_)
      · exact absurd c3 (nI_ge (by omega) (by omega))
      · have d3 := Int32.not_le.mp c3
        refine lv_aload_n hx hb dX11_noticed_13 rfl (lv_at hl 2 rfl) ?_
        refine rd_get (own := RX11) (x := .ref (B 7)) S hG.1 iX11 (mP_0 hM) 8 rfl (by decide) w0 rfl dX11_noticed_14 ?_
        refine lv_iload hx hb dX11_noticed_17 (lv_at hl 0 rfl) ?_
        refine rd_V (As := [.int (nI k6)]) (rest := []) (v := some (.ref (B (200 + k6)))) S hG (c_Jx4a65c_get_915e3 l G H (B 7) (eA G B cp 7 10) (mc 7) (g 5) (cp 7) (lsE B 200 (g 5)) (mP_7 hM) (mP_e7 hM (by omega)) hM.1.2.1.2.2.1 (hM.1.2.1.2.2.2.2 _) k6 (B (200 + k6)) (by omega) (lsE_at (by omega))) gX11_noticed_Jx4a65c_get_915e3 rfl ⟨rfl, rfl⟩ nmJx4a65c_get_915e3 ⟨Nat.le_of_ble_eq_true rfl, Nat.le_of_ble_eq_true rfl⟩ (rd_rcv hG.1 (mP_7 hM) rfl) rfl hl.1 rfl (Nat.le_of_ble_eq_true rfl) ⟨Nat.zero_le _, Nat.zero_le _⟩ dX11_noticed_19 ?_
        refine W.eq (g2 := F0 mZ 22 ls [.ref (B (200 + k6))]) rfl ?_
        refine rd_castS S hG.1 (mP_no hM (i := k6) (by omega)) rfl rfl w1 dX11_noticed_22 ?_
        refine lv_astore (lv' := [(7, .ref (B (200 + k6))), (6, .int (nI k6)), (5, .int z6_5), (0, .ref (B 0)), (1, .int (nI i)), (2, .int d), (3, .int ch), (4, .int (nI bb))]) hx hb dX11_noticed_25 hl (by decide) rfl (fun ls hl => ?_)
        refine lv_aload_n hx hb dX11_noticed_27 rfl (lv_at hl 3 rfl) ?_
        refine lv_iload hx hb dX11_noticed_28 (lv_at hl 1 rfl) ?_
        refine lv_iload_n hx hb dX11_noticed_30 rfl (lv_at hl 5 rfl) ?_
        refine lv_iload hx hb dX11_noticed_31 (lv_at hl 7 rfl) ?_
        refine rd_V (As := [.int (nI k6), .int d, .int (nI bb)]) (rest := []) (v := some (.int (b2i (mCt f k6 d bb = true)))) S hG (c_X11_counts l G B th mc cp f g H hM k6 d bb (by omega) (by omega)) gX11_noticed_X11_counts rfl ⟨rfl, rfl⟩ nmX11_counts ⟨Nat.le_of_ble_eq_true rfl, Nat.le_of_ble_eq_true rfl⟩ (rd_rcv hG.1 (mP_0 hM) rfl) rfl hl.1 rfl (Nat.le_of_ble_eq_true rfl) ⟨Nat.zero_le _, Nat.zero_le _⟩ dX11_noticed_33 ?_
        refine W.eq (g2 := F0 mZ 36 ls [.int (b2i (mCt f k6 d bb = true))]) rfl ?_
        refine lv_if_ne (tgt := 42) hx hb dX11_noticed_36 (by decide) (fun c4 => ?_) (fun c4 => ?_)
        · have c4 := b2i_nz.mp c4
          refine lv_aload hx hb dX11_noticed_42 (lv_at hl 0 rfl) ?_
          refine rd_get (own := RX11) (x := .int (f 22 k6)) S hG.1 iX8 (mP_no hM (i := k6) (by omega)) 0 rfl (by decide) w2 rfl dX11_noticed_44 ?_
          refine lv_iconst (v := 1) hx hb dX11_noticed_47 (by decide) ?_
          refine lv_icmp_ne (tgt := 73) hx hb dX11_noticed_48 (by decide) (fun c5 => ?_) (fun c5 => ?_)
          · refine lv_aload hx hb dX11_noticed_73 (lv_at hl 0 rfl) ?_
            refine rd_get (own := RX11) (x := .int (f 22 k6)) S hG.1 iX8 (mP_no hM (i := k6) (by omega)) 0 rfl (by decide) w2 rfl dX11_noticed_75 ?_
            refine lv_iconst (v := 2) hx hb dX11_noticed_78 (by decide) ?_
            refine lv_icmp_ne (tgt := 93) hx hb dX11_noticed_79 (by decide) (fun c6 => ?_) (fun c6 => ?_)
            · refine lv_aload hx hb dX11_noticed_93 (lv_at hl 0 rfl) ?_
              refine rd_get (own := RX11) (x := .int (f 22 k6)) S hG.1 iX8 (mP_no hM (i := k6) (by omega)) 0 rfl (by decide) w2 rfl dX11_noticed_95 ?_
              refine lv_if_ne (tgt := 122) hx hb dX11_noticed_98 (by decide) (fun c7 => ?_) (fun c7 => ?_)
              · refine lv_iinc (v := nI (k6 + 1)) (lv' := [(6, .int (nI (k6 + 1))), (7, .ref (B (200 + k6))), (5, .int z6_5), (0, .ref (B 0)), (1, .int (nI i)), (2, .int d), (3, .int ch), (4, .int (nI bb))]) hx hb dX11_noticed_122 hl (k := 1) rfl (nI_inc _) (by decide) rfl (fun ls hl => ?_)
                refine lv_goto (tgt := 6) hx hb dX11_noticed_125 (by decide) ?_
                exact ih6 (k6 + 1) (by omega) _  (inv6.trans (by first | rfl | (simp only [fl, mNL, c3, d3, c4, c5, c6, c7, ne_eq, not_true_eq_false, not_false_eq_true, and_true, true_and, and_false, false_and, or_true, true_or, or_false, false_or, and_self, or_self, decide_eq_true_eq, ↓reduceIte]; done) | (simp only [fl, mNL, c3, d3, c4, c5, c6, c7, ne_eq, not_true_eq_false, not_false_eq_true, and_true, true_and, and_false, false_and, or_true, true_or, or_false, false_or, and_self, or_self, decide_eq_true_eq, ↓reduceIte]; rfl) | (simp [fl, mNL, c3, d3, c4, c5, c6, c7]; done) | (simp only [fl, mNL, c3, d3, c4, c5, c6, c7, ne_eq, not_true_eq_false, not_false_eq_true, and_true, true_and, and_false, false_and, or_true, true_or, or_false, false_or, and_self, or_self, decide_eq_true_eq, ↓reduceIte]))) ls (lv_sub hl [0, 2, 3, 4, 5, 6, 7] rfl)
              · refine lv_aload hx hb dX11_noticed_101 (lv_at hl 0 rfl) ?_
                refine rd_get (own := RX11) (x := .int (f 23 k6)) S hG.1 iX8 (mP_no hM (i := k6) (by omega)) 1 rfl (by decide) w3 rfl dX11_noticed_103 ?_
                refine lv_iload_n hx hb dX11_noticed_106 rfl (lv_at hl 4 rfl) ?_
                refine lv_icmp_ne (tgt := 122) hx hb dX11_noticed_107 (by decide) (fun c8 => ?_) (fun c8 => ?_)
                · refine lv_iinc (v := nI (k6 + 1)) (lv' := [(6, .int (nI (k6 + 1))), (7, .ref (B (200 + k6))), (5, .int z6_5), (0, .ref (B 0)), (1, .int (nI i)), (2, .int d), (3, .int ch), (4, .int (nI bb))]) hx hb dX11_noticed_122 hl (k := 1) rfl (nI_inc _) (by decide) rfl (fun ls hl => ?_)
                  refine lv_goto (tgt := 6) hx hb dX11_noticed_125 (by decide) ?_
                  exact ih6 (k6 + 1) (by omega) _  (inv6.trans (by first | rfl | (simp only [fl, mNL, c3, d3, c4, c5, c6, c7, c8, ne_eq, not_true_eq_false, not_false_eq_true, and_true, true_and, and_false, false_and, or_true, true_or, or_false, false_or, and_self, or_self, decide_eq_true_eq, ↓reduceIte]; done) | (simp only [fl, mNL, c3, d3, c4, c5, c6, c7, c8, ne_eq, not_true_eq_false, not_false_eq_true, and_true, true_and, and_false, false_and, or_true, true_or, or_false, false_or, and_self, or_self, decide_eq_true_eq, ↓reduceIte]; rfl) | (simp [fl, mNL, c3, d3, c4, c5, c6, c7, c8]; done) | (simp only [fl, mNL, c3, d3, c4, c5, c6, c7, c8, ne_eq, not_true_eq_false, not_false_eq_true, and_true, true_and, and_false, false_and, or_true, true_or, or_false, false_or, and_self, or_self, decide_eq_true_eq, ↓reduceIte]))) ls (lv_sub hl [0, 2, 3, 4, 5, 6, 7] rfl)
                · refine lv_iload hx hb dX11_noticed_110 (lv_at hl 2 rfl) ?_
                  refine lv_aload hx hb dX11_noticed_112 (lv_at hl 0 rfl) ?_
                  refine rd_get (own := RX11) (x := .int (f 24 k6)) S hG.1 iX8 (mP_no hM (i := k6) (by omega)) 2 rfl (by decide) w4 rfl dX11_noticed_114 ?_
                  refine rd_max S hl.1 m_max_86 ⟨Nat.le_of_ble_eq_true rfl, Nat.le_of_ble_eq_true rfl⟩ (Nat.le_of_ble_eq_true rfl) ⟨Nat.zero_le _, Nat.zero_le _⟩ dX11_noticed_117 ?_
                  refine W.eq (g2 := F0 mZ 120 ls [.int (imax z6_5 (f 24 k6))]) rfl ?_
                  refine lv_topi (fun x9 ex9 => ?_)
                  refine lv_istore (lv' := [(5, .int x9), (7, .ref (B (200 + k6))), (6, .int (nI k6)), (0, .ref (B 0)), (1, .int (nI i)), (2, .int d), (3, .int ch), (4, .int (nI bb))]) hx hb dX11_noticed_120 hl (by decide) rfl (fun ls hl => ?_)
                  refine lv_iinc (v := nI (k6 + 1)) (lv' := [(6, .int (nI (k6 + 1))), (5, .int x9), (7, .ref (B (200 + k6))), (0, .ref (B 0)), (1, .int (nI i)), (2, .int d), (3, .int ch), (4, .int (nI bb))]) hx hb dX11_noticed_122 hl (k := 2) rfl (nI_inc _) (by decide) rfl (fun ls hl => ?_)
                  refine lv_goto (tgt := 6) hx hb dX11_noticed_125 (by decide) ?_
                  exact ih6 (k6 + 1) (by omega) _  (inv6.trans (by subst ex9; first | rfl | (simp only [fl, mNL, c3, d3, c4, c5, c6, c7, c8, ne_eq, not_true_eq_false, not_false_eq_true, and_true, true_and, and_false, false_and, or_true, true_or, or_false, false_or, and_self, or_self, decide_eq_true_eq, ↓reduceIte]; done) | (simp only [fl, mNL, c3, d3, c4, c5, c6, c7, c8, ne_eq, not_true_eq_false, not_false_eq_true, and_true, true_and, and_false, false_and, or_true, true_or, or_false, false_or, and_self, or_self, decide_eq_true_eq, ↓reduceIte]; rfl) | (simp [fl, mNL, c3, d3, c4, c5, c6, c7, c8]; done) | (simp only [fl, mNL, c3, d3, c4, c5, c6, c7, c8, ne_eq, not_true_eq_false, not_false_eq_true, and_true, true_and, and_false, false_and, or_true, true_or, or_false, false_or, and_self, or_self, decide_eq_true_eq, ↓reduceIte]))) ls (lv_sub hl [0, 1, 3, 4, 5, 6, 7] rfl)
            · refine lv_aload hx hb dX11_noticed_82 (lv_at hl 0 rfl) ?_
              refine rd_get (own := RX11) (x := .int (f 23 k6)) S hG.1 iX8 (mP_no hM (i := k6) (by omega)) 1 rfl (by decide) w3 rfl dX11_noticed_84 ?_
              refine lv_iload_n hx hb dX11_noticed_87 rfl (lv_at hl 4 rfl) ?_
              refine lv_icmp_ne (tgt := 93) hx hb dX11_noticed_88 (by decide) (fun c10 => ?_) (fun c10 => ?_)
              · refine lv_aload hx hb dX11_noticed_93 (lv_at hl 0 rfl) ?_
                refine rd_get (own := RX11) (x := .int (f 22 k6)) S hG.1 iX8 (mP_no hM (i := k6) (by omega)) 0 rfl (by decide) w2 rfl dX11_noticed_95 ?_
                refine lv_if_ne (tgt := 122) hx hb dX11_noticed_98 (by decide) (fun c11 => ?_) (fun c11 => ?_)
                · refine lv_iinc (v := nI (k6 + 1)) (lv' := [(6, .int (nI (k6 + 1))), (7, .ref (B (200 + k6))), (5, .int z6_5), (0, .ref (B 0)), (1, .int (nI i)), (2, .int d), (3, .int ch), (4, .int (nI bb))]) hx hb dX11_noticed_122 hl (k := 1) rfl (nI_inc _) (by decide) rfl (fun ls hl => ?_)
                  refine lv_goto (tgt := 6) hx hb dX11_noticed_125 (by decide) ?_
                  exact ih6 (k6 + 1) (by omega) _  (inv6.trans (by first | rfl | (simp only [fl, mNL, c3, d3, c4, c5, c6, c10, c11, ne_eq, not_true_eq_false, not_false_eq_true, and_true, true_and, and_false, false_and, or_true, true_or, or_false, false_or, and_self, or_self, decide_eq_true_eq, ↓reduceIte]; done) | (simp only [fl, mNL, c3, d3, c4, c5, c6, c10, c11, ne_eq, not_true_eq_false, not_false_eq_true, and_true, true_and, and_false, false_and, or_true, true_or, or_false, false_or, and_self, or_self, decide_eq_true_eq, ↓reduceIte]; rfl) | (simp [fl, mNL, c3, d3, c4, c5, c6, c10, c11]; done) | (simp only [fl, mNL, c3, d3, c4, c5, c6, c10, c11, ne_eq, not_true_eq_false, not_false_eq_true, and_true, true_and, and_false, false_and, or_true, true_or, or_false, false_or, and_self, or_self, decide_eq_true_eq, ↓reduceIte]))) ls (lv_sub hl [0, 2, 3, 4, 5, 6, 7] rfl)
                · exact absurd (c6.symm.trans c11) (by decide)
              · refine lv_iconst (v := (-1)) hx hb dX11_noticed_91 (by decide) ?_
                exact rd_iret S hr hlk dX11_noticed_92 (congrArg (fun z => some (Value.int z)) (by exact inv6.trans (by first | rfl | (simp only [mNL, c3, d3, c4, c5, c6, c10, ne_eq, not_true_eq_false, not_false_eq_true, and_true, true_and, and_false, false_and, or_true, true_or, or_false, false_or, and_self, or_self, decide_eq_true_eq, ↓reduceIte]; done) | (simp [mNL, c3, d3, c4, c5, c6, c10]; done) | (simp only [mNL, c3, d3, c4, c5, c6, c10, ne_eq, not_true_eq_false, not_false_eq_true, and_true, true_and, and_false, false_and, or_true, true_or, or_false, false_or, and_self, or_self, decide_eq_true_eq, ↓reduceIte]))))
          · refine lv_aload hx hb dX11_noticed_51 (lv_at hl 0 rfl) ?_
            refine rd_get (own := RX11) (x := .int (f 23 k6)) S hG.1 iX8 (mP_no hM (i := k6) (by omega)) 1 rfl (by decide) w3 rfl dX11_noticed_53 ?_
            refine lv_aload_n hx hb dX11_noticed_56 rfl (lv_at hl 3 rfl) ?_
            refine rd_get (own := RX11) (x := .ref (B 6)) S hG.1 iX11 (mP_0 hM) 7 rfl (by decide) w5 rfl dX11_noticed_57 ?_
            refine lv_iload_n hx hb dX11_noticed_60 rfl (lv_at hl 4 rfl) ?_
            refine rd_V (As := [.int (nI i)]) (rest := [.int (f 23 k6)]) (v := some (.ref (B (40 + i)))) S hG (c_Jx4a65c_get_915e3 l G H (B 6) (eA G B cp 6 9) (mc 6) (g 3) (cp 6) (lsE B 40 (g 3)) (mP_6 hM) (mP_e6 hM (by omega)) hM.1.2.1.2.1 (hM.1.2.1.2.2.2.2 _) i (B (40 + i)) (by omega) (lsE_at (by omega))) gX11_noticed_Jx4a65c_get_915e3 rfl ⟨rfl, rfl⟩ nmJx4a65c_get_915e3 ⟨Nat.le_of_ble_eq_true rfl, Nat.le_of_ble_eq_true rfl⟩ (rd_rcv hG.1 (mP_6 hM) rfl) rfl hl.1 rfl (Nat.le_of_ble_eq_true rfl) ⟨Nat.zero_le _, Nat.zero_le _⟩ dX11_noticed_61 ?_
            refine W.eq (g2 := F0 mZ 64 ls [.ref (B (40 + i)), .int (f 23 k6)]) rfl ?_
            refine rd_castS S hG.1 (mP_pr hM (i := i) (by omega)) rfl rfl w6 dX11_noticed_64 ?_
            refine rd_get (own := RX11) (x := .int (f 17 i)) S hG.1 iX10 (mP_pr hM (i := i) (by omega)) 0 rfl (by decide) w7 rfl dX11_noticed_67 ?_
            refine lv_icmp_eq (tgt := 91) hx hb dX11_noticed_70 (by decide) (fun c12 => ?_) (fun c12 => ?_)
            · refine lv_iconst (v := (-1)) hx hb dX11_noticed_91 (by decide) ?_
              exact rd_iret S hr hlk dX11_noticed_92 (congrArg (fun z => some (Value.int z)) (by exact inv6.trans (by first | rfl | (simp only [mNL, c3, d3, c4, c5, c12, ne_eq, not_true_eq_false, not_false_eq_true, and_true, true_and, and_false, false_and, or_true, true_or, or_false, false_or, and_self, or_self, decide_eq_true_eq, ↓reduceIte]; done) | (simp [mNL, c3, d3, c4, c5, c12]; done) | (simp only [mNL, c3, d3, c4, c5, c12, ne_eq, not_true_eq_false, not_false_eq_true, and_true, true_and, and_false, false_and, or_true, true_or, or_false, false_or, and_self, or_self, decide_eq_true_eq, ↓reduceIte]))))
            · refine lv_aload hx hb dX11_noticed_73 (lv_at hl 0 rfl) ?_
              refine rd_get (own := RX11) (x := .int (f 22 k6)) S hG.1 iX8 (mP_no hM (i := k6) (by omega)) 0 rfl (by decide) w2 rfl dX11_noticed_75 ?_
              refine lv_iconst (v := 2) hx hb dX11_noticed_78 (by decide) ?_
              refine lv_icmp_ne (tgt := 93) hx hb dX11_noticed_79 (by decide) (fun c13 => ?_) (fun c13 => ?_)
              · refine lv_aload hx hb dX11_noticed_93 (lv_at hl 0 rfl) ?_
                refine rd_get (own := RX11) (x := .int (f 22 k6)) S hG.1 iX8 (mP_no hM (i := k6) (by omega)) 0 rfl (by decide) w2 rfl dX11_noticed_95 ?_
                refine lv_if_ne (tgt := 122) hx hb dX11_noticed_98 (by decide) (fun c14 => ?_) (fun c14 => ?_)
                · refine lv_iinc (v := nI (k6 + 1)) (lv' := [(6, .int (nI (k6 + 1))), (7, .ref (B (200 + k6))), (5, .int z6_5), (0, .ref (B 0)), (1, .int (nI i)), (2, .int d), (3, .int ch), (4, .int (nI bb))]) hx hb dX11_noticed_122 hl (k := 1) rfl (nI_inc _) (by decide) rfl (fun ls hl => ?_)
                  refine lv_goto (tgt := 6) hx hb dX11_noticed_125 (by decide) ?_
                  exact ih6 (k6 + 1) (by omega) _  (inv6.trans (by first | rfl | (simp only [fl, mNL, c3, d3, c4, c5, c12, c13, c14, ne_eq, not_true_eq_false, not_false_eq_true, and_true, true_and, and_false, false_and, or_true, true_or, or_false, false_or, and_self, or_self, decide_eq_true_eq, ↓reduceIte]; done) | (simp only [fl, mNL, c3, d3, c4, c5, c12, c13, c14, ne_eq, not_true_eq_false, not_false_eq_true, and_true, true_and, and_false, false_and, or_true, true_or, or_false, false_or, and_self, or_self, decide_eq_true_eq, ↓reduceIte]; rfl) | (simp [fl, mNL, c3, d3, c4, c5, c12, c13, c14]; done) | (simp only [fl, mNL, c3, d3, c4, c5, c12, c13, c14, ne_eq, not_true_eq_false, not_false_eq_true, and_true, true_and, and_false, false_and, or_true, true_or, or_false, false_or, and_self, or_self, decide_eq_true_eq, ↓reduceIte]))) ls (lv_sub hl [0, 2, 3, 4, 5, 6, 7] rfl)
                · exact absurd (c5.symm.trans c14) (by decide)
              · exact absurd (c5.symm.trans c13) (by decide)
        · have c4 := b2i_z.mp c4
          refine lv_goto (tgt := 122) hx hb dX11_noticed_39 (by decide) ?_
          refine lv_iinc (v := nI (k6 + 1)) (lv' := [(6, .int (nI (k6 + 1))), (7, .ref (B (200 + k6))), (5, .int z6_5), (0, .ref (B 0)), (1, .int (nI i)), (2, .int d), (3, .int ch), (4, .int (nI bb))]) hx hb dX11_noticed_122 hl (k := 1) rfl (nI_inc _) (by decide) rfl (fun ls hl => ?_)
          refine lv_goto (tgt := 6) hx hb dX11_noticed_125 (by decide) ?_
          exact ih6 (k6 + 1) (by omega) _  (inv6.trans (by first | rfl | (simp only [fl, mNL, c3, d3, c4, ne_eq, not_true_eq_false, not_false_eq_true, and_true, true_and, and_false, false_and, or_true, true_or, or_false, false_or, and_self, or_self, decide_eq_true_eq, ↓reduceIte]; done) | (simp only [fl, mNL, c3, d3, c4, ne_eq, not_true_eq_false, not_false_eq_true, and_true, true_and, and_false, false_and, or_true, true_or, or_false, false_or, and_self, or_self, decide_eq_true_eq, ↓reduceIte]; rfl) | (simp [fl, mNL, c3, d3, c4]; done) | (simp only [fl, mNL, c3, d3, c4, ne_eq, not_true_eq_false, not_false_eq_true, and_true, true_and, and_false, false_and, or_true, true_or, or_false, false_or, and_self, or_self, decide_eq_true_eq, ↓reduceIte]))) ls (lv_sub hl [0, 2, 3, 4, 5, 6, 7] rfl)
  exact loop6 bb 0 (by omega) _ (by rfl) ls (lv_sub hl [0, 1, 2, 3, 4, 5, 6] rfl)

