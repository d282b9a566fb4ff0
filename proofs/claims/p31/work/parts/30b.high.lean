set_option maxHeartbeats 4000000 in
set_option maxRecDepth 100000 in
theorem c_L_isHighest (l : Launch) (G : GT) (hlf : l.stackTraces = false) (A : Nat → Nat) (f : Nat → Nat → Int32) (g : Nat → Nat) (H : Heap) (hR : RP G A f g H) (h : IV f g) (x y : Int32) (a : Nat) (b : Int32) (hx9 : -20 ≤ x.toInt ∧ x.toInt ≤ 60) (hy9 : -9 ≤ y.toInt ∧ y.toInt ≤ 9) (ha : a ≤ 399) (hb9 : b = -1 ∨ ∃ q, b = nI q ∧ a ≤ q ∧ q ≤ 399) : PrV l G H yL_isHighest wsL_isHighest { frames := 10, cells := 1, slots := 6, locals := 200 } [.ref (A 0), .int x, .int y, .int (nI a), .int b] (some (.int 1)) := by
  refine pr_of (cc := cL_isHighest) (maxL := 6) (ret := (some .boolean)) (by decide) rfl (Nat.le_of_ble_eq_true rfl) ?_
  intro pZ eZ sZ mZ bZ meZ cZ ls S hr hlk hl hHs hG
  have S : CallFix pZ mZ cZ cL_isHighest 6 sZ _ wsL_isHighest RL := S
  have hx := S.1
  have hb := S.2.1
  have hown := S.2.2.2.1
  have hts := S.2.2.2.2
  have hl : lv_has ls 6 [(0, .ref (A 0)), (1, .int x), (2, .int y), (3, .int (nI a)), (4, .int b)] := hl
  have hg0 := h.1.1.1
  have hg1 := h.1.1.2.1
  have hg3 := h.1.1.2.2.1
  have hg4 := h.1.1.2.2.2.1
  have hg5 := h.1.1.2.2.2.2.1
  have hg7 := h.1.1.2.2.2.2.2
  obtain ⟨T, t1, t2, t3, t4⟩ := hi_all h.1 (x := x) (y := y) (a := nI a) (b := b) hx9 hy9
  refine lv_aload_n hx hb dL_isHighest_0 rfl (lv_at hl 0 rfl) ?_
  refine lv_iload_n hx hb dL_isHighest_1 rfl (lv_at hl 1 rfl) ?_
  refine lv_iload_n hx hb dL_isHighest_2 rfl (lv_at hl 2 rfl) ?_
  refine lv_iload_n hx hb dL_isHighest_3 rfl (lv_at hl 3 rfl) ?_
  refine lv_iload hx hb dL_isHighest_4 (lv_at hl 4 rfl) ?_
  refine pr_V (As := [.int x, .int y, .int (nI a), .int b]) (rest := []) (v := some (.int (nI (hiT f g x y (nI a) b)))) S hG (c_X7_highest l G hlf A f g H hR x y (nI a) b) (k_pl hx9 hy9 ha hb9) gL_isHighest_X7_highest rfl ⟨rfl, rfl⟩ np_highest ⟨Nat.le_of_ble_eq_true rfl, Nat.le_of_ble_eq_true rfl⟩ (rd_rcv hG.1 (rP_0 hR) rfl) rfl hl.1 rfl (Nat.le_of_ble_eq_true rfl) ⟨Nat.le_of_ble_eq_true rfl, Nat.le_of_ble_eq_true rfl⟩ dL_isHighest_6 ?_
  refine W.eq (g2 := F0 mZ 9 ls [.int (nI (hiT f g x y (nI a) b))]) rfl ?_
  rw [t2]
  refine lv_istore (lv' := [(5, .int (nI T)), (0, .ref (A 0)), (1, .int x), (2, .int y), (3, .int (nI a)), (4, .int b)]) hx hb dL_isHighest_9 hl (by decide) rfl (fun ls hl => ?_)
  refine lv_iload hx hb dL_isHighest_11 (lv_at hl 0 rfl) ?_
  refine lv_if_lt (tgt := 32) hx hb dL_isHighest_13 (by decide) (fun c => absurd c (nI_pos (by omega))) (fun _ => ?_)
  refine lv_aload_n hx hb dL_isHighest_16 rfl (lv_at hl 1 rfl) ?_
  refine lv_iload_n hx hb dL_isHighest_17 rfl (lv_at hl 2 rfl) ?_
  refine lv_iload_n hx hb dL_isHighest_18 rfl (lv_at hl 3 rfl) ?_
  refine lv_iload hx hb dL_isHighest_19 (lv_at hl 0 rfl) ?_
  refine lv_iload_n hx hb dL_isHighest_21 rfl (lv_at hl 4 rfl) ?_
  refine lv_iload hx hb dL_isHighest_22 (lv_at hl 5 rfl) ?_
  refine pr_V (As := [.int x, .int y, .int (nI T), .int (nI a), .int b]) (rest := []) (v := some (.int (prm f g x y (nI T) (nI a) b))) S hG (c_X7_permit l G hlf A f g H hR x y (nI T) (nI a) b) (kOr_nn (k_pl hx9 hy9 ha hb9) (ka_n (lo := 0) (hi := 999) rfl rfl (Nat.zero_le _) (by omega) (by decide))) gL_isHighest_X7_permit rfl ⟨rfl, rfl⟩ np_permit ⟨Nat.le_of_ble_eq_true rfl, Nat.le_of_ble_eq_true rfl⟩ (rd_rcv hG.1 (rP_0 hR) rfl) rfl hl.1 rfl (Nat.le_of_ble_eq_true rfl) ⟨Nat.le_of_ble_eq_true rfl, Nat.le_of_ble_eq_true rfl⟩ dL_isHighest_24 ?_
  refine W.eq (g2 := F0 mZ 27 ls [.int (prm f g x y (nI T) (nI a) b)]) rfl ?_
  rw [t3]
  refine lv_if_eq (tgt := 32) hx hb dL_isHighest_27 (by decide) (fun _ => ?_) (fun c => absurd rfl c)
  refine lv_iload hx hb dL_isHighest_32 (lv_at hl 0 rfl) ?_
  refine lv_sipush (v := nI 999) hx hb dL_isHighest_34 (by decide) ?_
  rcases t4 with t4 | ⟨t4, t5, t6⟩
  · refine lv_icmp_eq (tgt := 71) hx hb dL_isHighest_37 (by decide) (fun _ => ?_) (fun c => absurd (congrArg nI t4) c)
    refine lv_iconst (v := nI 1) hx hb dL_isHighest_71 (by decide) ?_
    refine lv_goto (tgt := 76) hx hb dL_isHighest_72 (by decide) ?_
    exact pr_zret S hr hlk dL_isHighest_76 rfl rfl
  · refine lv_icmp_eq (tgt := 71) hx hb dL_isHighest_37 (by decide) (fun c => absurd c (fun z => by have := (nI_eq (by omega) (by decide)).mp z; omega)) (fun _ => ?_)
    refine lv_aload_n hx hb dL_isHighest_40 rfl (lv_at hl 1 rfl) ?_
    refine lv_iload_n hx hb dL_isHighest_41 rfl (lv_at hl 2 rfl) ?_
    refine lv_iload_n hx hb dL_isHighest_42 rfl (lv_at hl 3 rfl) ?_
    refine lv_iload hx hb dL_isHighest_43 (lv_at hl 0 rfl) ?_
    refine lv_iconst (v := nI 1) hx hb dL_isHighest_45 (by decide) ?_
    refine lv_iadd hx hb dL_isHighest_46 ?_
    rw [nI_add T 1]
    refine lv_iload_n hx hb dL_isHighest_47 rfl (lv_at hl 4 rfl) ?_
    refine lv_iload hx hb dL_isHighest_48 (lv_at hl 5 rfl) ?_
    refine pr_V (As := [.int x, .int y, .int (nI (T + 1)), .int (nI a), .int b]) (rest := []) (v := some (.int (prm f g x y (nI (T + 1)) (nI a) b))) S hG (c_X7_permit l G hlf A f g H hR x y (nI (T + 1)) (nI a) b) (kOr_nn (k_pl hx9 hy9 ha hb9) (ka_n (lo := 0) (hi := 999) rfl rfl (Nat.zero_le _) (by omega) (by decide))) gL_isHighest_X7_permit rfl ⟨rfl, rfl⟩ np_permit ⟨Nat.le_of_ble_eq_true rfl, Nat.le_of_ble_eq_true rfl⟩ (rd_rcv hG.1 (rP_0 hR) rfl) rfl hl.1 rfl (Nat.le_of_ble_eq_true rfl) ⟨Nat.le_of_ble_eq_true rfl, Nat.le_of_ble_eq_true rfl⟩ dL_isHighest_50 ?_
    refine W.eq (g2 := F0 mZ 53 ls [.int (prm f g x y (nI (T + 1)) (nI a) b)]) rfl ?_
    refine lv_if_le (tgt := 75) hx hb dL_isHighest_53 (by decide) (fun c => absurd c (Int32.not_le.mpr t5)) (fun _ => ?_)
    refine lv_aload_n hx hb dL_isHighest_56 rfl (lv_at hl 1 rfl) ?_
    refine lv_iload_n hx hb dL_isHighest_57 rfl (lv_at hl 2 rfl) ?_
    refine lv_iload_n hx hb dL_isHighest_58 rfl (lv_at hl 3 rfl) ?_
    refine lv_sipush (v := nI 999) hx hb dL_isHighest_59 (by decide) ?_
    refine lv_iload_n hx hb dL_isHighest_62 rfl (lv_at hl 4 rfl) ?_
    refine lv_iload hx hb dL_isHighest_63 (lv_at hl 5 rfl) ?_
    refine pr_V (As := [.int x, .int y, .int (nI 999), .int (nI a), .int b]) (rest := []) (v := some (.int (prm f g x y (nI 999) (nI a) b))) S hG (c_X7_permit l G hlf A f g H hR x y (nI 999) (nI a) b) (kOr_nn (k_pl hx9 hy9 ha hb9) (ka_n (lo := 0) (hi := 999) rfl rfl (Nat.zero_le _) (by omega) (by decide))) gL_isHighest_X7_permit rfl ⟨rfl, rfl⟩ np_permit ⟨Nat.le_of_ble_eq_true rfl, Nat.le_of_ble_eq_true rfl⟩ (rd_rcv hG.1 (rP_0 hR) rfl) rfl hl.1 rfl (Nat.le_of_ble_eq_true rfl) ⟨Nat.le_of_ble_eq_true rfl, Nat.le_of_ble_eq_true rfl⟩ dL_isHighest_65 ?_
    refine W.eq (g2 := F0 mZ 68 ls [.int (prm f g x y (nI 999) (nI a) b)]) rfl ?_
    refine lv_if_le (tgt := 75) hx hb dL_isHighest_68 (by decide) (fun c => absurd c (Int32.not_le.mpr t6)) (fun _ => ?_)
    refine lv_iconst (v := nI 1) hx hb dL_isHighest_71 (by decide) ?_
    refine lv_goto (tgt := 76) hx hb dL_isHighest_72 (by decide) ?_
    exact pr_zret S hr hlk dL_isHighest_76 rfl rfl
