set_option maxHeartbeats 4000000 in
set_option maxRecDepth 100000 in
theorem c_L_isRight (l : Launch) (G : GT) (hlf : l.stackTraces = false) (A : Nat → Nat) (f : Nat → Nat → Int32) (g : Nat → Nat) (H : Heap) (hR : RP G A f g H) (h : IV f g) (h1 : 1 ≤ g 3) : PrV l G H yL_isRight wsL_isRight { frames := 10, cells := 1, slots := 6, locals := 200 } [.ref (A 0), .int (nI (g 3)), .int (nI (g 7))] (some (.int 1)) := by
  refine pr_of (cc := cL_isRight) (maxL := 5) (ret := (some .boolean)) (by decide) rfl (Nat.le_of_ble_eq_true rfl) ?_
  intro pZ eZ sZ mZ bZ meZ cZ ls S hr hlk hl hHs hG
  have S : CallFix pZ mZ cZ cL_isRight 5 sZ _ wsL_isRight RL := S
  have hx := S.1
  have hb := S.2.1
  have hown := S.2.2.2.1
  have hts := S.2.2.2.2
  have hl : lv_has ls 5 [(0, .ref (A 0)), (1, .int (nI (g 3))), (2, .int (nI (g 7)))] := hl
  have hg0 := h.1.1.1
  have hg1 := h.1.1.2.1
  have hg3 := h.1.1.2.2.1
  have hg4 := h.1.1.2.2.2.1
  have hg5 := h.1.1.2.2.2.2.1
  have hg7 := h.1.1.2.2.2.2.2
  refine lv_aload_n hx hb dL_isRight_0 rfl (lv_at hl 0 rfl) ?_
  refine pr_V (As := []) (rest := []) (v := some (.long (dg5 f g))) S hG (c_X7_digest l G hlf A f g H hR  hg0) rfl gL_isRight_X7_digest rfl ⟨rfl, rfl⟩ np_digest ⟨Nat.le_of_ble_eq_true rfl, Nat.le_of_ble_eq_true rfl⟩ (rd_rcv hG.1 (rP_0 hR) rfl) rfl hl.1 rfl (Nat.le_of_ble_eq_true rfl) ⟨Nat.le_of_ble_eq_true rfl, Nat.le_of_ble_eq_true rfl⟩ dL_isRight_1 ?_
  refine W.eq (g2 := F0 mZ 4 ls [.long (dg5 f g)]) rfl ?_
  refine lv_lstore_n (lv' := [(3, .long (dg5 f g)), (0, .ref (A 0)), (1, .int (nI (g 3))), (2, .int (nI (g 7)))]) hx hb dL_isRight_4 rfl hl (by decide) rfl (fun ls hl => ?_)
  refine lv_aload_n hx hb dL_isRight_5 rfl (lv_at hl 1 rfl) ?_
  refine lv_iconst (v := nI 0) hx hb dL_isRight_6 (by decide) ?_
  refine lv_iconst (v := nI 0) hx hb dL_isRight_7 (by decide) ?_
  refine lv_sipush (v := nI 999) hx hb dL_isRight_8 (by decide) ?_
  refine lv_iconst (v := nI 0) hx hb dL_isRight_11 (by decide) ?_
  refine lv_iconst (v := (-1)) hx hb dL_isRight_12 (by decide) ?_
  refine pr_V (As := [.int (nI 0), .int (nI 0), .int (nI 999), .int (nI 0), .int (-1)]) (rest := []) (v := some (.int (prm f g (nI 0) (nI 0) (nI 999) (nI 0) (-1)))) S hG (c_X7_permit l G hlf A f g H hR (nI 0) (nI 0) (nI 999) (nI 0) (-1)) (kOr_nn (k_pl (by decide) (by decide) (by decide) (Or.inl rfl)) (by decide)) gL_isRight_X7_permit rfl ⟨rfl, rfl⟩ np_permit ⟨Nat.le_of_ble_eq_true rfl, Nat.le_of_ble_eq_true rfl⟩ (rd_rcv hG.1 (rP_0 hR) rfl) rfl hl.1 rfl (Nat.le_of_ble_eq_true rfl) ⟨Nat.le_of_ble_eq_true rfl, Nat.le_of_ble_eq_true rfl⟩ dL_isRight_13 ?_
  refine W.eq (g2 := F0 mZ 16 ls [.int (prm f g (nI 0) (nI 0) (nI 999) (nI 0) (-1))]) rfl ?_
  refine lv_iconst (v := nI 1) hx hb dL_isRight_16 (by decide) ?_
  refine lv_iload_n hx hb dL_isRight_17 rfl (lv_at hl 2 rfl) ?_
  refine lv_ishl hx hb dL_isRight_18 ?_
  refine lv_icmp_ge (tgt := 50) hx hb dL_isRight_19 (by decide) (fun c => absurd c (by rw [prm_mk]; exact Int32.not_le.mpr (mk_lt hg3).2)) (fun _ => ?_)
  refine lv_aload_n hx hb dL_isRight_22 rfl (lv_at hl 1 rfl) ?_
  refine lv_iconst (v := nI 0) hx hb dL_isRight_23 (by decide) ?_
  refine lv_iconst (v := nI 0) hx hb dL_isRight_24 (by decide) ?_
  refine lv_iconst (v := nI 0) hx hb dL_isRight_25 (by decide) ?_
  refine lv_iconst (v := (-1)) hx hb dL_isRight_26 (by decide) ?_
  refine pr_V (As := [.int (nI 0), .int (nI 0), .int (nI 0), .int (-1)]) (rest := []) (v := some (.int (nI (hiT f g (nI 0) (nI 0) (nI 0) (-1))))) S hG (c_X7_highest l G hlf A f g H hR (nI 0) (nI 0) (nI 0) (-1)) (k_pl (by decide) (by decide) (by decide) (Or.inl rfl)) gL_isRight_X7_highest rfl ⟨rfl, rfl⟩ np_highest ⟨Nat.le_of_ble_eq_true rfl, Nat.le_of_ble_eq_true rfl⟩ (rd_rcv hG.1 (rP_0 hR) rfl) rfl hl.1 rfl (Nat.le_of_ble_eq_true rfl) ⟨Nat.le_of_ble_eq_true rfl, Nat.le_of_ble_eq_true rfl⟩ dL_isRight_27 ?_
  refine W.eq (g2 := F0 mZ 30 ls [.int (nI (hiT f g (nI 0) (nI 0) (nI 0) (-1)))]) rfl ?_
  refine lv_sipush (v := nI 999) hx hb dL_isRight_30 (by decide) ?_
  refine lv_icmp_gt (tgt := 50) hx hb dL_isRight_33 (by decide) (fun c => absurd c (nI_nlt (hiF_le f g (nI 0) (nI 0) (nI 0) (-1) (g 3)) (by decide))) (fun _ => ?_)
  refine lv_aload_n hx hb dL_isRight_36 rfl (lv_at hl 1 rfl) ?_
  refine lv_sipush (v := nI 399) hx hb dL_isRight_37 (by decide) ?_
  refine pr_V (As := [.int (nI 399)]) (rest := []) (v := some (.double (mnD f g (nI 399)))) S hG (c_X7_meanDemanded l G hlf A f g H hR (nI 399)) (by decide) gL_isRight_X7_meanDemanded rfl ⟨rfl, rfl⟩ np_meanDemanded ⟨Nat.le_of_ble_eq_true rfl, Nat.le_of_ble_eq_true rfl⟩ (rd_rcv hG.1 (rP_0 hR) rfl) rfl hl.1 rfl (Nat.le_of_ble_eq_true rfl) ⟨Nat.le_of_ble_eq_true rfl, Nat.le_of_ble_eq_true rfl⟩ dL_isRight_40 ?_
  refine W.eq (g2 := F0 mZ 43 ls [.double (mnD f g (nI 399))]) rfl ?_
  refine lv_ldc2d (own := RL) (v := 4641240890982006784) hx hb hown (hts (.constantDouble RL 94 (4641240890982006784)) (by decide +kernel)) dL_isRight_43 ?_
  refine lv_dcmp hx hb dL_isRight_46 ?_
  refine lv_if_ge (tgt := 52) hx hb dL_isRight_47 (by decide) (fun _ => ?_) (fun c => absurd (me_c h.1 h1 (nI 399)) c)
  refine lv_aload_n hx hb dL_isRight_52 rfl (lv_at hl 1 rfl) ?_
  refine pr_V (As := []) (rest := []) (v := some (.long (dg5 f g))) S hG (c_X7_digest l G hlf A f g H hR  hg0) rfl gL_isRight_X7_digest rfl ⟨rfl, rfl⟩ np_digest ⟨Nat.le_of_ble_eq_true rfl, Nat.le_of_ble_eq_true rfl⟩ (rd_rcv hG.1 (rP_0 hR) rfl) rfl hl.1 rfl (Nat.le_of_ble_eq_true rfl) ⟨Nat.le_of_ble_eq_true rfl, Nat.le_of_ble_eq_true rfl⟩ dL_isRight_53 ?_
  refine W.eq (g2 := F0 mZ 56 ls [.long (dg5 f g)]) rfl ?_
  refine lv_lload_n hx hb dL_isRight_56 rfl (lv_at hl 0 rfl) ?_
  refine W.lcmp hx hb dL_isRight_57 ?_
  refine lv_if_ne (tgt := 75) hx hb dL_isRight_58 (by decide) (fun c => absurd (lcmp_self _) c) (fun _ => ?_)
  refine lv_aload_n hx hb dL_isRight_61 rfl (lv_at hl 1 rfl) ?_
  refine lv_bipush (v := nI 8) hx hb dL_isRight_62 (by decide) ?_
  refine pr_V (As := [.int (nI 8)]) (rest := []) (v := some (.int (mny f g (nI 8)))) S hG (c_X7_many l G hlf A f g H hR (nI 8)) (k_man (by decide)) gL_isRight_X7_many rfl ⟨rfl, rfl⟩ np_many ⟨Nat.le_of_ble_eq_true rfl, Nat.le_of_ble_eq_true rfl⟩ (rd_rcv hG.1 (rP_0 hR) rfl) rfl hl.1 rfl (Nat.le_of_ble_eq_true rfl) ⟨Nat.le_of_ble_eq_true rfl, Nat.le_of_ble_eq_true rfl⟩ dL_isRight_64 ?_
  refine W.eq (g2 := F0 mZ 67 ls [.int (mny f g (nI 8))]) rfl ?_
  rw [my_8]
  refine lv_iload_n hx hb dL_isRight_67 rfl (lv_at hl 3 rfl) ?_
  refine lv_icmp_ne (tgt := 75) hx hb dL_isRight_68 (by decide) (fun c => absurd rfl c) (fun _ => ?_)
  refine lv_iconst (v := nI 1) hx hb dL_isRight_71 (by decide) ?_
  refine lv_goto (tgt := 76) hx hb dL_isRight_72 (by decide) ?_
  exact pr_zret S hr hlk dL_isRight_76 rfl rfl
