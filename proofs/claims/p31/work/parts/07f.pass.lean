theorem koArg_c1 {d : Int32} (h : koArg d 1 60 = none) : d = nI (cnt d) ∧ 1 ≤ cnt d ∧ cnt d ≤ 60 := by
  have h1 := koArg_n h
  have h2 : ¬ d < 0 := by
    rw [Int32.lt_iff_toInt_lt] at h1 ⊢
    have e1 : (1 : Int32).toInt = 1 := by decide
    have e0 : (0 : Int32).toInt = 0 := by decide
    omega
  obtain ⟨j, hj, rfl⟩ := nI_of2 (M := 60) (n := 60) (by decide) h2 (Int32.not_lt.mp h1.2)
  rw [cnt_nI (by omega)]
  refine ⟨rfl, ?_, hj⟩
  have h3 := (nI_leI (a := 1) (by decide) (by omega)).mp (Int32.not_lt.mp h1.1)
  exact h3
theorem pas_le {d : Int32} {n : Nat} (hd : d = nI (cnt d)) (hn : n ≤ 399) (h60 : cnt d ≤ 60) (h : nI n + d ≤ 399) : n + cnt d ≤ 399 := by
  rw [hd, nI_add] at h
  exact (nI_leI (b := 399) (by omega) (by decide)).mp h
set_option maxHeartbeats 1000000 in
set_option maxRecDepth 100000 in
theorem c_X7_pass (l : Launch) (G : GT) (hlf : l.stackTraces = false) (A : Nat → Nat) (f : Nat → Nat → Int32) (g : Nat → Nat) (H : Heap) (hR : RP G A f g H) (hA : RA G A) (d : Int32) (hg0 : g 0 ≤ 399) (hg7 : g 7 ≤ 63 * g 0) : WxV l G A H yX7_pass wsX7_pass { frames := 7, cells := 1, slots := 6, locals := 121 } [.ref (A 0), .int d] (kOr (koArg d 1 60) (if 399 < nI (g 0) + d then some xISE else none)) (some (.int (nI (psT f g (cnt d))))) (f) (gset (gset g 0 (g 0 + cnt d)) 7 (g 7 + psT f g (cnt d))) := by
  refine wx_of (cc := cX7_pass) (maxL := 4) (ret := (some .int)) (by decide) rfl (Nat.le_of_ble_eq_true rfl) ?_
  intro pZ eZ sZ mZ bZ meZ cZ ls S hr hlk hxt hl hHs hG
  have S : CallFix pZ mZ cZ cX7_pass 4 sZ _ wsX7_pass RX7 := S
  have hx := S.1
  have hb := S.2.1
  have hown := S.2.2.2.1
  have hts := S.2.2.2.2
  have hl : lv_has ls 4 [(0, .ref (A 0)), (1, .int d)] := hl
  have w0 := hts (.fieldLink RX7 51 "MinimaRoom" "now" "I") (by decide +kernel)
  have w1 := hts (.fieldLink RX7 55 "MinimaRoom" "unsafeTold" "I") (by decide +kernel)
  have iX7 : ∀ w ∈ u_ws RX7 TX7 8, w ∈ wsX7_pass := by decide +kernel
  have hxk_ISE : Cond.classLink RX7 69 xISE ∈ wsX7_pass := by decide +kernel
  have hxi_ISE : Cond.initialized xISE ∈ wsX7_pass := by decide +kernel
  have hx1_ISE : ∀ w ∈ (vx_atS RX7 73 xISE xUp).filter goodWord, w ∈ wsX7_pass := by decide +kernel
  have hM := MS.rf hR
  have hgb := hR.1
  refine lv_iload_n hx hb dX7_pass_0 rfl (lv_at hl 1 rfl) ?_
  refine lv_iconst (v := 1) hx hb dX7_pass_1 (by decide) ?_
  refine lv_bipush (v := 60) hx hb dX7_pass_2 (by decide) ?_
  refine rx_S (As := [.int d, .int 1, .int 60]) (rest := []) (v := none) S hG (c_X7_requireArgument l G hlf H d 1 60) gX7_pass_X7_requireArgument rfl ⟨rfl, rfl⟩ nmX7_requireArgument ⟨Nat.le_of_ble_eq_true rfl, Nat.le_of_ble_eq_true rfl⟩ rfl hl.1 rfl (Nat.le_of_ble_eq_true rfl) ⟨Nat.le_of_ble_eq_true rfl, Nat.le_of_ble_eq_true rfl⟩ dX7_pass_4 hxt hlk ⟨Nat.le_of_ble_eq_true rfl, Nat.le_of_ble_eq_true rfl⟩ (fun E t hE hext => ⟨by first | rfl | (simp only [hE, kOr, ne_eq, not_true_eq_false, not_false_eq_true, and_true, true_and, and_false, false_and, or_true, true_or, or_false, false_or, and_self, or_self, decide_eq_true_eq, ↓reduceIte]; done) | (simp only [hE, kOr, ne_eq, not_true_eq_false, not_false_eq_true, and_true, true_and, and_false, false_and, or_true, true_or, or_false, false_or, and_self, or_self, decide_eq_true_eq, ↓reduceIte]; done) | (simp [hE, kOr]; done) | (simp only [hE, kOr, ne_eq, not_true_eq_false, not_false_eq_true, and_true, true_and, and_false, false_and, or_true, true_or, or_false, false_or, and_self, or_self, decide_eq_true_eq, ↓reduceIte]), hext⟩) (fun k1 => ?_)
  refine W.eq (g2 := F0 mZ 7 ls []) rfl ?_
  refine lv_aload_n hx hb dX7_pass_7 rfl (lv_at hl 0 rfl) ?_
  refine rd_get (own := RX7) (x := .int (nI (g 0))) S hG.1 iX7 (rP_0 hR) 6 rfl (by decide) w0 rfl dX7_pass_8 ?_
  refine lv_iload_n hx hb dX7_pass_11 rfl (lv_at hl 1 rfl) ?_
  refine lv_iadd hx hb dX7_pass_12 ?_
  refine lv_sipush (v := 399) hx hb dX7_pass_13 (by decide) ?_
  refine lv_icmp_le (tgt := 29) hx hb dX7_pass_16 (by decide) (fun c2 => ?_) (fun c2 => ?_)
  · have d2 := Int32.not_lt.mpr c2
    have hd := koArg_c1 k1; have hps := psT_le f g (cnt d); have hsum := pas_le hd.1 hg0 (by omega) c2
    refine lv_iconst (v := 0) hx hb dX7_pass_29 (by decide) ?_
    refine lv_istore_n (lv' := [(2, .int 0), (0, .ref (A 0)), (1, .int d)]) hx hb dX7_pass_30 rfl hl (by decide) rfl (fun ls hl => ?_)
    refine lv_iconst (v := 0) hx hb dX7_pass_31 (by decide) ?_
    refine lv_istore_n (lv' := [(3, .int 0), (2, .int 0), (0, .ref (A 0)), (1, .int d)]) hx hb dX7_pass_32 rfl hl (by decide) rfl (fun ls hl => ?_)
    have loop33 : ∀ (n33 k33 : Nat), k33 + n33 = cnt d → ∀ (z33_2 : Int32), z33_2 = nI (psT f g k33) → ∀ (H3 : Heap) (locs3 : List Loc), MS G A H f (gset g 0 (g 0 + k33)) H3 locs3 → GK G H3 sZ → ∀ (ls : Array Slot), lv_has ls 4 [(3, .int (nI k33)), (2, .int z33_2), (0, .ref (A 0)), (1, .int d)] → W pZ l eZ ({ frames := 7, cells := 1, slots := 6, locals := 121 } : Room) sZ mZ ([.ref (A 0), .int d] : List Value).toArray bZ meZ cZ H3 locs3 0 0 (wx_Q bZ A G H [.ref (A 0), .int d] sZ (kOr (koArg d 1 60) (if 399 < nI (g 0) + d then some xISE else none)) (some (.int (nI (psT f g (cnt d))))) (f) (gset (gset g 0 (g 0 + cnt d)) 7 (g 7 + psT f g (cnt d)))) (F0 mZ 33 ls []) := by
      intro n33
      induction n33 with
      | zero =>
        intro k33 hk33 z33_2 ez33_2 H3 locs3 hM3 hG3 ls hl
        obtain rfl : k33 = cnt d := by omega
        have hR3 := hM3.1
        refine lv_iload_n hx hb dX7_pass_33 rfl (lv_at hl 0 rfl) ?_
        refine lv_iload_n hx hb dX7_pass_34 rfl (lv_at hl 3 rfl) ?_
        refine lv_icmp_ge (tgt := 64) hx hb dX7_pass_35 (by decide) (fun c4 => ?_) (fun c4 => ?_)
        · have d4 := Int32.not_lt.mpr c4
          refine lv_aload_n hx hb dX7_pass_64 rfl (lv_at hl 2 rfl) ?_
          refine lv_dup hx hb dX7_pass_65 rfl ?_
          refine rd_get (own := RX7) (x := .int (nI ((gset g 0 (g 0 + (cnt d))) 7))) S hG3.1 iX7 (rP_0 hR3) 7 rfl (by decide) w1 rfl dX7_pass_66 ?_
          refine lv_iload_n hx hb dX7_pass_69 rfl (lv_at hl 1 rfl) ?_
          refine lv_iadd hx hb dX7_pass_70 ?_
          refine W.eq (g2 := F0 mZ 71 ls [.int (nI (g 7 + psT f g (cnt d))), .ref (A 0)]) (by subst ez33_2; exact congrArg (fun z => F0 mZ 71 ls [Value.int z, Value.ref (A 0)]) (nI_add _ _)) ?_
          refine wr_cnt (k := 0) (j := 7) (d := 7) (n := (g 7 + psT f g (cnt d))) S hG3 hA hM3 (by decide) rfl rfl (by intro i _ hi; unfold rC; simp [gset, hi]) (by omega) iX7 tyX7 tyX7_ok nmX7 rfl (by decide) w1 rfl (by decide +kernel) (Nat.le_of_ble_eq_true rfl) dX7_pass_71 (fun H5 locs5 hM5 hG5 => ?_)
          have hR5 := hM5.1
          refine lv_iload_n hx hb dX7_pass_74 rfl (lv_at hl 1 rfl) ?_
          exact wx_iret S hr hlk dX7_pass_75 (by subst ez33_2; first | rfl | (simp only [k1, kOr, ne_eq, not_true_eq_false, not_false_eq_true, and_true, true_and, and_false, false_and, or_true, true_or, or_false, false_or, and_self, or_self, decide_eq_true_eq, ↓reduceIte]; done) | (simp only [k1, c2, d2, c4, d4, kOr, ne_eq, not_true_eq_false, not_false_eq_true, and_true, true_and, and_false, false_and, or_true, true_or, or_false, false_or, and_self, or_self, decide_eq_true_eq, ↓reduceIte]; done) | (simp [k1, c2, d2, c4, d4, kOr]; done) | (simp only [k1, c2, d2, c4, d4, kOr, ne_eq, not_true_eq_false, not_false_eq_true, and_true, true_and, and_false, false_and, or_true, true_or, or_false, false_or, and_self, or_self, decide_eq_true_eq, ↓reduceIte])) (by subst ez33_2; exact hM5) (congrArg (fun z => some (Value.int z)) (by exact ez33_2.symm))
        · exact absurd (lp_le_cnt _) c4
      | succ n33 ih33 =>
        intro k33 hk33 z33_2 ez33_2 H3 locs3 hM3 hG3 ls hl
        have hR3 := hM3.1
        refine lv_iload_n hx hb dX7_pass_33 rfl (lv_at hl 0 rfl) ?_
        refine lv_iload_n hx hb dX7_pass_34 rfl (lv_at hl 3 rfl) ?_
        refine lv_icmp_ge (tgt := 64) hx hb dX7_pass_35 (by decide) (fun c6 => ?_) (fun c6 => ?_)
        · exact absurd c6 (lp_nle (by omega))
        · have d6 := Int32.not_le.mp c6
          refine lv_aload_n hx hb dX7_pass_38 rfl (lv_at hl 2 rfl) ?_
          refine lv_dup hx hb dX7_pass_39 rfl ?_
          refine rd_get (own := RX7) (x := .int (nI ((gset g 0 (g 0 + k33)) 0))) S hG3.1 iX7 (rP_0 hR3) 6 rfl (by decide) w0 rfl dX7_pass_40 ?_
          refine lv_iconst (v := 1) hx hb dX7_pass_43 (by decide) ?_
          refine lv_iadd hx hb dX7_pass_44 ?_
          refine W.eq (g2 := F0 mZ 45 ls [.int (nI (((gset g 0 (g 0 + k33)) 0) + 1)), .ref (A 0)]) (by rw [nI_1]) ?_
          refine wr_cnt (k := 0) (j := 6) (d := 0) (n := (((gset g 0 (g 0 + k33)) 0) + 1)) S hG3 hA hM3 (by decide) rfl rfl (by intro i _ hi; unfold rC; simp [gset, hi]) (by show g 0 + k33 + 1 < 65536; omega) iX7 tyX7 tyX7_ok nmX7 rfl (by decide) w0 rfl (by decide +kernel) (Nat.le_of_ble_eq_true rfl) dX7_pass_45 (fun H7 locs7 hM7 hG7 => ?_)
          have hR7 := hM7.1
          rw [show gset (gset g 0 (g 0 + k33)) 0 ((gset g 0 (g 0 + k33)) 0 + 1) = gset g 0 (g 0 + (k33 + 1)) from gset_s g _ _] at hM7
          have hR7 := hM7.1
          refine lv_iload_n hx hb dX7_pass_48 rfl (lv_at hl 1 rfl) ?_
          refine lv_aload_n hx hb dX7_pass_49 rfl (lv_at hl 2 rfl) ?_
          refine rd_V (As := []) (rest := [.int z33_2]) (v := some (.int (uSet (f) (gset g 0 (g 0 + (k33 + 1)))))) S hG7 (c_X7_unsafeSet l G A (f) (gset g 0 (g 0 + (k33 + 1))) H7 hR7 ) gX7_pass_X7_unsafeSet rfl ⟨rfl, rfl⟩ nmX7_unsafeSet ⟨Nat.le_of_ble_eq_true rfl, Nat.le_of_ble_eq_true rfl⟩ (rd_rcv hG7.1 (rP_0 hR7) rfl) rfl hl.1 rfl (Nat.le_of_ble_eq_true rfl) ⟨Nat.zero_le _, Nat.zero_le _⟩ dX7_pass_50 ?_
          refine W.eq (g2 := F0 mZ 53 ls [.int (uSet (f) (gset g 0 (g 0 + (k33 + 1)))), .int z33_2]) rfl ?_
          refine rd_S (As := [.int (uSet (f) (gset g 0 (g 0 + (k33 + 1))))]) (rest := [.int z33_2]) (v := some (.int (bcI (uSet (f) (gset g 0 (g 0 + (k33 + 1))))))) S hG7 (c_J6_bitCount_0f7a4 l G H7 (uSet (f) (gset g 0 (g 0 + (k33 + 1))))) gX7_pass_J6_bitCount_0f7a4 rfl ⟨rfl, rfl⟩ nmJ6_bitCount_0f7a4 ⟨Nat.le_of_ble_eq_true rfl, Nat.le_of_ble_eq_true rfl⟩ rfl hl.1 rfl (Nat.le_of_ble_eq_true rfl) ⟨Nat.zero_le _, Nat.zero_le _⟩ dX7_pass_53 ?_
          refine W.eq (g2 := F0 mZ 56 ls [.int (bcI (uSet (f) (gset g 0 (g 0 + (k33 + 1))))), .int z33_2]) rfl ?_
          refine lv_iadd hx hb dX7_pass_56 ?_
          refine lv_topi (fun x8 ex8 => ?_)
          refine lv_istore_n (lv' := [(2, .int x8), (3, .int (nI k33)), (0, .ref (A 0)), (1, .int d)]) hx hb dX7_pass_57 rfl hl (by decide) rfl (fun ls hl => ?_)
          refine lv_iinc (v := nI (k33 + 1)) (lv' := [(3, .int (nI (k33 + 1))), (2, .int x8), (0, .ref (A 0)), (1, .int d)]) hx hb dX7_pass_58 hl (k := 1) rfl (nI_inc _) (by decide) rfl (fun ls hl => ?_)
          refine lv_goto (tgt := 33) hx hb dX7_pass_61 (by decide) ?_
          exact ih33 (k33 + 1) (by omega) _ (by subst ex8; subst ez33_2; exact psT_s f g _) _ _ hM7 hG7 ls (lv_sub hl [0, 1, 2, 3] rfl)
    exact loop33 (cnt d) 0 (by omega) _ (by rfl) _ _ (by rw [Nat.add_zero, gset_0]; exact hM) hG ls (lv_sub hl [0, 1, 2, 3] rfl)
  · have d2 := Int32.not_le.mp c2
    exact rx_thS (text := "now would be behind the last day") (rest := []) S hHs hlf hG hl.1 hxt hlk hxk_ISE hxi_ISE rfl (by decide) hx1_ISE at_ISE ot_ISE dX7_pass_19 dX7_pass_22 dX7_pass_23 dX7_pass_25 dX7_pass_28 ⟨by decide, Nat.le_of_ble_eq_true rfl, Nat.le_of_ble_eq_true rfl, Nat.le_of_ble_eq_true rfl⟩ ⟨Nat.le_of_ble_eq_true rfl, Nat.le_of_ble_eq_true rfl⟩ (fun t hext => ⟨by first | rfl | (simp only [k1, kOr, ne_eq, not_true_eq_false, not_false_eq_true, and_true, true_and, and_false, false_and, or_true, true_or, or_false, false_or, and_self, or_self, decide_eq_true_eq, ↓reduceIte]; done) | (simp only [k1, c2, d2, kOr, ne_eq, not_true_eq_false, not_false_eq_true, and_true, true_and, and_false, false_and, or_true, true_or, or_false, false_or, and_self, or_self, decide_eq_true_eq, ↓reduceIte]; done) | (simp [k1, c2, d2, kOr]; done) | (simp only [k1, c2, d2, kOr, ne_eq, not_true_eq_false, not_false_eq_true, and_true, true_and, and_false, false_and, or_true, true_or, or_false, false_or, and_self, or_self, decide_eq_true_eq, ↓reduceIte]), hext⟩)
