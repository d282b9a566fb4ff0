theorem aid_c {cp : Nat → Nat} {f : Nat → Nat → Int32} {g : Nat → Nat} (h : MI cp f g) {i : Nat} (hi : i < g 3) : f 17 i = nI (cnt (f 17 i)) ∧ cnt (f 17 i) < 3 := by
  obtain ⟨a, h1, h2⟩ := h.2.2.1 i hi
  rw [h2, cnt_nI (by omega)]
  exact ⟨rfl, h1⟩
theorem nmX11_inForceNow : nmV yX11_inForceNow RX11 2 := by decide +kernel

set_option maxHeartbeats 1000000 in
set_option maxRecDepth 100000 in
theorem c_X11_inForceNow (l : Launch) (G : GT) (B : Nat → Nat) (th : Int32) (mc : Nat → Int32) (cp : Nat → Nat) (f : Nat → Nat → Int32) (g : Nat → Nat) (H : Heap) (hM : MP G B th mc cp f g H) (i : Nat) (d : Int32) (hi : i < g 3) : RdV l G H yX11_inForceNow wsX11_inForceNow { frames := 5, cells := 0, slots := 0, locals := 116 } [.ref (B 0), .int (nI i), .int d] (some (.int (mIF f g i d))) := by
  refine rd_of (cc := cX11_inForceNow) (maxL := 3) (ret := (some .int)) (by decide) rfl (Nat.le_of_ble_eq_true rfl) ?_
  intro pZ eZ sZ mZ bZ meZ cZ ls S hr hlk hl hHs hG
  have S : CallFix pZ mZ cZ cX11_inForceNow 3 sZ _ wsX11_inForceNow RX11 := S
  have hx := S.1
  have hb := S.2.1
  have hown := S.2.2.2.1
  have hts := S.2.2.2.2
  have hl : lv_has ls 3 [(0, .ref (B 0)), (1, .int (nI i)), (2, .int d)] := hl
  have w0 := hts (.fieldLink RX11 23 "MinimaRoomModel" "procedures" "Ljava/util/ArrayList;") (by decide +kernel)
  have w1 := hts (.classLink RX11 59 "MinimaRoomModel$Procedure") (by decide +kernel)
  have w2 := hts (.fieldLink RX11 61 "MinimaRoomModel$Procedure" "aid" "I") (by decide +kernel)
  have w3 := hts (.fieldLink RX11 26 "MinimaRoomModel" "notices" "Ljava/util/ArrayList;") (by decide +kernel)
  have iX11 : ∀ w ∈ u_ws RX11 TX11 11, w ∈ wsX11_inForceNow := by decide +kernel
  have iX10 : ∀ w ∈ u_ws RX10 TX10 3, w ∈ wsX11_inForceNow := by decide +kernel
  have hI := hM.1
  have hgb := hI.1.1
  have hg0 := hI.1.2.1
  have hg1 := hI.1.2.2.1
  have hg3 := hI.1.2.2.2.1
  have hg4 := hI.1.2.2.2.2.1
  have hg5 := hI.1.2.2.2.2.2
  refine lv_aload_n hx hb dX11_inForceNow_0 rfl (lv_at hl 0 rfl) ?_
  refine lv_aload_n hx hb dX11_inForceNow_1 rfl (lv_at hl 0 rfl) ?_
  refine rd_get (own := RX11) (x := .ref (B 6)) S hG.1 iX11 (mP_0 hM) 7 rfl (by decide) w0 rfl dX11_inForceNow_2 ?_
  refine lv_iload_n hx hb dX11_inForceNow_5 rfl (lv_at hl 1 rfl) ?_
  refine rd_V (As := [.int (nI i)]) (rest := [.ref (B 0)]) (v := some (.ref (B (40 + i)))) S hG (c_Jx4a65c_get_915e3 l G H (B 6) (eA G B cp 6 9) (mc 6) (g 3) (cp 6) (lsE B 40 (g 3)) (mP_6 hM) (mP_e6 hM (by omega)) hM.1.2.1.2.1 (hM.1.2.1.2.2.2.2 _) i (B (40 + i)) (by omega) (lsE_at (by omega))) gX11_inForceNow_Jx4a65c_get_915e3 rfl ⟨rfl, rfl⟩ nmJx4a65c_get_915e3 ⟨Nat.le_of_ble_eq_true rfl, Nat.le_of_ble_eq_true rfl⟩ (rd_rcv hG.1 (mP_6 hM) rfl) rfl hl.1 rfl (Nat.le_of_ble_eq_true rfl) ⟨Nat.zero_le _, Nat.zero_le _⟩ dX11_inForceNow_6 ?_
  refine W.eq (g2 := F0 mZ 9 ls [.ref (B (40 + i)), .ref (B 0)]) rfl ?_
  refine rd_castS S hG.1 (mP_pr hM (i := i) (by omega)) rfl rfl w1 dX11_inForceNow_9 ?_
  refine rd_get (own := RX11) (x := .int (f 17 i)) S hG.1 iX10 (mP_pr hM (i := i) (by omega)) 0 rfl (by decide) w2 rfl dX11_inForceNow_12 ?_
  refine lv_iload_n hx hb dX11_inForceNow_15 rfl (lv_at hl 2 rfl) ?_
  have haid := aid_c hI (i := i) (by omega)
  refine W.eq (g2 := F0 mZ 16 ls [.int d, .int (nI (cnt (f 17 i))), .ref (B 0)]) (congrArg (fun z => F0 mZ 16 ls [Value.int d, Value.int z, Value.ref (B 0)]) haid.1) ?_
  refine rd_V (As := [.int (nI (cnt (f 17 i))), .int d]) (rest := []) (v := some (.int (b2i (mGd f (cnt (f 17 i)) d = true)))) S hG (c_X11_isGood l G B th mc cp f g H hM (cnt (f 17 i)) d (by omega)) gX11_inForceNow_X11_isGood rfl ⟨rfl, rfl⟩ nmX11_isGood ⟨Nat.le_of_ble_eq_true rfl, Nat.le_of_ble_eq_true rfl⟩ (rd_rcv hG.1 (mP_0 hM) rfl) rfl hl.1 rfl (Nat.le_of_ble_eq_true rfl) ⟨Nat.zero_le _, Nat.zero_le _⟩ dX11_inForceNow_16 ?_
  refine W.eq (g2 := F0 mZ 19 ls [.int (b2i (mGd f (cnt (f 17 i)) d = true))]) rfl ?_
  refine lv_if_eq (tgt := 53) hx hb dX11_inForceNow_19 (by decide) (fun c1 => ?_) (fun c1 => ?_)
  · have c1 := b2i_z.mp c1
    refine lv_iconst (v := (-1)) hx hb dX11_inForceNow_53 (by decide) ?_
    exact rd_iret S hr hlk dX11_inForceNow_54 (congrArg (fun z => some (Value.int z)) (by first | rfl | (simp only [mIF, c1, ne_eq, not_true_eq_false, not_false_eq_true, and_true, true_and, and_false, false_and, or_true, true_or, or_false, false_or, and_self, or_self, decide_eq_true_eq, ↓reduceIte]; done) | (simp [mIF, c1]; done) | (simp only [mIF, c1, ne_eq, not_true_eq_false, not_false_eq_true, and_true, true_and, and_false, false_and, or_true, true_or, or_false, false_or, and_self, or_self, decide_eq_true_eq, ↓reduceIte])))
  · have c1 := b2i_nz.mp c1
    refine lv_aload_n hx hb dX11_inForceNow_22 rfl (lv_at hl 0 rfl) ?_
    refine lv_iload_n hx hb dX11_inForceNow_23 rfl (lv_at hl 1 rfl) ?_
    refine lv_iload_n hx hb dX11_inForceNow_24 rfl (lv_at hl 2 rfl) ?_
    refine lv_aload_n hx hb dX11_inForceNow_25 rfl (lv_at hl 0 rfl) ?_
    refine rd_get (own := RX11) (x := .ref (B 6)) S hG.1 iX11 (mP_0 hM) 7 rfl (by decide) w0 rfl dX11_inForceNow_26 ?_
    refine lv_iload_n hx hb dX11_inForceNow_29 rfl (lv_at hl 1 rfl) ?_
    refine rd_V (As := [.int (nI i)]) (rest := [.int d, .int (nI i), .ref (B 0)]) (v := some (.ref (B (40 + i)))) S hG (c_Jx4a65c_get_915e3 l G H (B 6) (eA G B cp 6 9) (mc 6) (g 3) (cp 6) (lsE B 40 (g 3)) (mP_6 hM) (mP_e6 hM (by omega)) hM.1.2.1.2.1 (hM.1.2.1.2.2.2.2 _) i (B (40 + i)) (by omega) (lsE_at (by omega))) gX11_inForceNow_Jx4a65c_get_915e3 rfl ⟨rfl, rfl⟩ nmJx4a65c_get_915e3 ⟨Nat.le_of_ble_eq_true rfl, Nat.le_of_ble_eq_true rfl⟩ (rd_rcv hG.1 (mP_6 hM) rfl) rfl hl.1 rfl (Nat.le_of_ble_eq_true rfl) ⟨Nat.zero_le _, Nat.zero_le _⟩ dX11_inForceNow_30 ?_
    refine W.eq (g2 := F0 mZ 33 ls [.ref (B (40 + i)), .int d, .int (nI i), .ref (B 0)]) rfl ?_
    refine rd_castS S hG.1 (mP_pr hM (i := i) (by omega)) rfl rfl w1 dX11_inForceNow_33 ?_
    refine lv_iload_n hx hb dX11_inForceNow_36 rfl (lv_at hl 2 rfl) ?_
    refine rd_V (As := [.int d]) (rest := [.int d, .int (nI i), .ref (B 0)]) (v := some (.int (mCh f g i d))) S hG (c_X10_chart l G B th mc cp f g H hM i d (by omega)) gX11_inForceNow_X10_chart rfl ⟨rfl, rfl⟩ nmX10_chart ⟨Nat.le_of_ble_eq_true rfl, Nat.le_of_ble_eq_true rfl⟩ (rd_rcv hG.1 (mP_pr hM (i := i) (by omega)) rfl) rfl hl.1 rfl (Nat.le_of_ble_eq_true rfl) ⟨Nat.zero_le _, Nat.zero_le _⟩ dX11_inForceNow_37 ?_
    refine W.eq (g2 := F0 mZ 40 ls [.int (mCh f g i d), .int d, .int (nI i), .ref (B 0)]) rfl ?_
    refine lv_aload_n hx hb dX11_inForceNow_40 rfl (lv_at hl 0 rfl) ?_
    refine rd_get (own := RX11) (x := .ref (B 7)) S hG.1 iX11 (mP_0 hM) 8 rfl (by decide) w3 rfl dX11_inForceNow_41 ?_
    refine rd_V (As := []) (rest := [.int (mCh f g i d), .int d, .int (nI i), .ref (B 0)]) (v := some (.int (nI (g 5)))) S hG (c_Jx4a65c_size_8abf5 l G H (B 7) (eA G B cp 7 10) (mc 7) (nI (g 5)) (mP_7 hM)) gX11_inForceNow_Jx4a65c_size_8abf5 rfl ⟨rfl, rfl⟩ nmJx4a65c_size_8abf5 ⟨Nat.le_of_ble_eq_true rfl, Nat.le_of_ble_eq_true rfl⟩ (rd_rcv hG.1 (mP_7 hM) rfl) rfl hl.1 rfl (Nat.le_of_ble_eq_true rfl) ⟨Nat.zero_le _, Nat.zero_le _⟩ dX11_inForceNow_44 ?_
    refine W.eq (g2 := F0 mZ 47 ls [.int (nI (g 5)), .int (mCh f g i d), .int d, .int (nI i), .ref (B 0)]) rfl ?_
    refine rd_V (As := [.int (nI i), .int d, .int (mCh f g i d), .int (nI (g 5))]) (rest := []) (v := some (.int (mNo f i d (mCh f g i d) (g 5)))) S hG (c_X11_noticed l G B th mc cp f g H hM i d (mCh f g i d) (g 5) (by omega) (by omega)) gX11_inForceNow_X11_noticed rfl ⟨rfl, rfl⟩ nmX11_noticed ⟨Nat.le_of_ble_eq_true rfl, Nat.le_of_ble_eq_true rfl⟩ (rd_rcv hG.1 (mP_0 hM) rfl) rfl hl.1 rfl (Nat.le_of_ble_eq_true rfl) ⟨Nat.zero_le _, Nat.zero_le _⟩ dX11_inForceNow_47 ?_
    refine W.eq (g2 := F0 mZ 50 ls [.int (mNo f i d (mCh f g i d) (g 5))]) rfl ?_
    refine lv_goto (tgt := 54) hx hb dX11_inForceNow_50 (by decide) ?_
    exact rd_iret S hr hlk dX11_inForceNow_54 (congrArg (fun z => some (Value.int z)) (by first | rfl | (simp only [mIF, c1, ne_eq, not_true_eq_false, not_false_eq_true, and_true, true_and, and_false, false_and, or_true, true_or, or_false, false_or, and_self, or_self, decide_eq_true_eq, ↓reduceIte]; done) | (simp [mIF, c1]; done) | (simp only [mIF, c1, ne_eq, not_true_eq_false, not_false_eq_true, and_true, true_and, and_false, false_and, or_true, true_or, or_false, false_or, and_self, or_self, decide_eq_true_eq, ↓reduceIte])))

theorem nmX11_believesNow : nmV yX11_believesNow RX11 3 := by decide +kernel

set_option maxHeartbeats 1000000 in
set_option maxRecDepth 100000 in
theorem c_X11_believesNow (l : Launch) (G : GT) (B : Nat → Nat) (th : Int32) (mc : Nat → Int32) (cp : Nat → Nat) (f : Nat → Nat → Int32) (g : Nat → Nat) (H : Heap) (hM : MP G B th mc cp f g H) (c : Nat) (i : Nat) (d : Int32) (hc : c < 4) (hi : i < g 3) (hrd : f 29 c = nI (cnt (f 29 c)) ∧ cnt (f 29 c) ≤ g 5) : RdV l G H yX11_believesNow wsX11_believesNow { frames := 5, cells := 0, slots := 0, locals := 116 } [.ref (B 0), .int (nI c), .int (nI i), .int d] (some (.int (mBl f g c i d))) := by
  refine rd_of (cc := cX11_believesNow) (maxL := 4) (ret := (some .int)) (by decide) rfl (Nat.le_of_ble_eq_true rfl) ?_
  intro pZ eZ sZ mZ bZ meZ cZ ls S hr hlk hl hHs hG
  have S : CallFix pZ mZ cZ cX11_believesNow 4 sZ _ wsX11_believesNow RX11 := S
  have hx := S.1
  have hb := S.2.1
  have hown := S.2.2.2.1
  have hts := S.2.2.2.2
  have hl : lv_has ls 4 [(0, .ref (B 0)), (1, .int (nI c)), (2, .int (nI i)), (3, .int d)] := hl
  have w0 := hts (.fieldLink RX11 29 "MinimaRoomModel" "loaded" "[I") (by decide +kernel)
  have w1 := hts (.fieldLink RX11 23 "MinimaRoomModel" "procedures" "Ljava/util/ArrayList;") (by decide +kernel)
  have w2 := hts (.classLink RX11 59 "MinimaRoomModel$Procedure") (by decide +kernel)
  have w3 := hts (.fieldLink RX11 32 "MinimaRoomModel" "read" "[I") (by decide +kernel)
  have iX11 : ∀ w ∈ u_ws RX11 TX11 11, w ∈ wsX11_believesNow := by decide +kernel
  have hI := hM.1
  have hgb := hI.1.1
  have hg0 := hI.1.2.1
  have hg1 := hI.1.2.2.1
  have hg3 := hI.1.2.2.2.1
  have hg4 := hI.1.2.2.2.2.1
  have hg5 := hI.1.2.2.2.2.2
  refine lv_aload_n hx hb dX11_believesNow_0 rfl (lv_at hl 0 rfl) ?_
  refine rd_get (own := RX11) (x := .ref (B 3)) S hG.1 iX11 (mP_0 hM) 9 rfl (by decide) w0 rfl dX11_believesNow_1 ?_
  refine lv_iload_n hx hb dX11_believesNow_4 rfl (lv_at hl 1 rfl) ?_
  refine rd_iald S hG.1 (mP_3 hM) (vp_in_nI hc (by decide)) dX11_believesNow_5 ?_
  refine W.eq (g2 := F0 mZ 6 ls [.int (f 28 c)]) (by rw [nI_clamp (n := c) (by omega)]) ?_
  refine lv_iconst (v := (-1)) hx hb dX11_believesNow_6 (by decide) ?_
  refine lv_icmp_ne (tgt := 14) hx hb dX11_believesNow_7 (by decide) (fun c1 => ?_) (fun c1 => ?_)
  · refine lv_aload_n hx hb dX11_believesNow_14 rfl (lv_at hl 0 rfl) ?_
    refine lv_iload_n hx hb dX11_believesNow_15 rfl (lv_at hl 2 rfl) ?_
    refine lv_iload_n hx hb dX11_believesNow_16 rfl (lv_at hl 3 rfl) ?_
    refine lv_aload_n hx hb dX11_believesNow_17 rfl (lv_at hl 0 rfl) ?_
    refine rd_get (own := RX11) (x := .ref (B 6)) S hG.1 iX11 (mP_0 hM) 7 rfl (by decide) w1 rfl dX11_believesNow_18 ?_
    refine lv_iload_n hx hb dX11_believesNow_21 rfl (lv_at hl 2 rfl) ?_
    refine rd_V (As := [.int (nI i)]) (rest := [.int d, .int (nI i), .ref (B 0)]) (v := some (.ref (B (40 + i)))) S hG (c_Jx4a65c_get_915e3 l G H (B 6) (eA G B cp 6 9) (mc 6) (g 3) (cp 6) (lsE B 40 (g 3)) (mP_6 hM) (mP_e6 hM (by omega)) hM.1.2.1.2.1 (hM.1.2.1.2.2.2.2 _) i (B (40 + i)) (by omega) (lsE_at (by omega))) gX11_believesNow_Jx4a65c_get_915e3 rfl ⟨rfl, rfl⟩ nmJx4a65c_get_915e3 ⟨Nat.le_of_ble_eq_true rfl, Nat.le_of_ble_eq_true rfl⟩ (rd_rcv hG.1 (mP_6 hM) rfl) rfl hl.1 rfl (Nat.le_of_ble_eq_true rfl) ⟨Nat.zero_le _, Nat.zero_le _⟩ dX11_believesNow_22 ?_
    refine W.eq (g2 := F0 mZ 25 ls [.ref (B (40 + i)), .int d, .int (nI i), .ref (B 0)]) rfl ?_
    refine rd_castS S hG.1 (mP_pr hM (i := i) (by omega)) rfl rfl w2 dX11_believesNow_25 ?_
    refine lv_aload_n hx hb dX11_believesNow_28 rfl (lv_at hl 0 rfl) ?_
    refine rd_get (own := RX11) (x := .ref (B 3)) S hG.1 iX11 (mP_0 hM) 9 rfl (by decide) w0 rfl dX11_believesNow_29 ?_
    refine lv_iload_n hx hb dX11_believesNow_32 rfl (lv_at hl 1 rfl) ?_
    refine rd_iald S hG.1 (mP_3 hM) (vp_in_nI hc (by decide)) dX11_believesNow_33 ?_
    refine W.eq (g2 := F0 mZ 34 ls [.int (f 28 c), .ref (B (40 + i)), .int d, .int (nI i), .ref (B 0)]) (by rw [nI_clamp (n := c) (by omega)]) ?_
    refine rd_V (As := [.int (f 28 c)]) (rest := [.int d, .int (nI i), .ref (B 0)]) (v := some (.int (mCh f g i (f 28 c)))) S hG (c_X10_chart l G B th mc cp f g H hM i (f 28 c) (by omega)) gX11_believesNow_X10_chart rfl ⟨rfl, rfl⟩ nmX10_chart ⟨Nat.le_of_ble_eq_true rfl, Nat.le_of_ble_eq_true rfl⟩ (rd_rcv hG.1 (mP_pr hM (i := i) (by omega)) rfl) rfl hl.1 rfl (Nat.le_of_ble_eq_true rfl) ⟨Nat.zero_le _, Nat.zero_le _⟩ dX11_believesNow_34 ?_
    refine W.eq (g2 := F0 mZ 37 ls [.int (mCh f g i (f 28 c)), .int d, .int (nI i), .ref (B 0)]) rfl ?_
    refine lv_aload_n hx hb dX11_believesNow_37 rfl (lv_at hl 0 rfl) ?_
    refine rd_get (own := RX11) (x := .ref (B 4)) S hG.1 iX11 (mP_0 hM) 10 rfl (by decide) w3 rfl dX11_believesNow_38 ?_
    refine lv_iload_n hx hb dX11_believesNow_41 rfl (lv_at hl 1 rfl) ?_
    refine rd_iald S hG.1 (mP_4 hM) (vp_in_nI hc (by decide)) dX11_believesNow_42 ?_
    refine W.eq (g2 := F0 mZ 43 ls [.int (f 29 c), .int (mCh f g i (f 28 c)), .int d, .int (nI i), .ref (B 0)]) (by rw [nI_clamp (n := c) (by omega)]) ?_
    refine W.eq (g2 := F0 mZ 43 ls [.int (nI (cnt (f 29 c))), .int (mCh f g i (f 28 c)), .int d, .int (nI i), .ref (B 0)]) (congrArg (fun z => F0 mZ 43 ls [Value.int z, .int (mCh f g i (f 28 c)), .int d, .int (nI i), .ref (B 0)]) hrd.1) ?_
    refine rd_V (As := [.int (nI i), .int d, .int (mCh f g i (f 28 c)), .int (nI (cnt (f 29 c)))]) (rest := []) (v := some (.int (mNo f i d (mCh f g i (f 28 c)) (cnt (f 29 c))))) S hG (c_X11_noticed l G B th mc cp f g H hM i d (mCh f g i (f 28 c)) (cnt (f 29 c)) (by omega) (by omega)) gX11_believesNow_X11_noticed rfl ⟨rfl, rfl⟩ nmX11_noticed ⟨Nat.le_of_ble_eq_true rfl, Nat.le_of_ble_eq_true rfl⟩ (rd_rcv hG.1 (mP_0 hM) rfl) rfl hl.1 rfl (Nat.le_of_ble_eq_true rfl) ⟨Nat.zero_le _, Nat.zero_le _⟩ dX11_believesNow_43 ?_
    refine W.eq (g2 := F0 mZ 46 ls [.int (mNo f i d (mCh f g i (f 28 c)) (cnt (f 29 c)))]) rfl ?_
    exact rd_iret S hr hlk dX11_believesNow_46 (congrArg (fun z => some (Value.int z)) (by first | rfl | (simp only [mBl, c1, ne_eq, not_true_eq_false, not_false_eq_true, and_true, true_and, and_false, false_and, or_true, true_or, or_false, false_or, and_self, or_self, decide_eq_true_eq, ↓reduceIte]; done) | (simp [mBl, c1]; done) | (simp only [mBl, c1, ne_eq, not_true_eq_false, not_false_eq_true, and_true, true_and, and_false, false_and, or_true, true_or, or_false, false_or, and_self, or_self, decide_eq_true_eq, ↓reduceIte])))
  · refine lv_iconst (v := (-1)) hx hb dX11_believesNow_10 (by decide) ?_
    refine lv_goto (tgt := 46) hx hb dX11_believesNow_11 (by decide) ?_
    exact rd_iret S hr hlk dX11_believesNow_46 (congrArg (fun z => some (Value.int z)) (by first | rfl | (simp only [mBl, c1, ne_eq, not_true_eq_false, not_false_eq_true, and_true, true_and, and_false, false_and, or_true, true_or, or_false, false_or, and_self, or_self, decide_eq_true_eq, ↓reduceIte]; done) | (simp [mBl, c1]; done) | (simp only [mBl, c1, ne_eq, not_true_eq_false, not_false_eq_true, and_true, true_and, and_false, false_and, or_true, true_or, or_false, false_or, and_self, or_self, decide_eq_true_eq, ↓reduceIte])))

