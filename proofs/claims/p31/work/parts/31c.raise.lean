set_option maxHeartbeats 4000000 in
set_option maxRecDepth 100000 in
theorem c_L_isRaised (l : Launch) (G : GT) (hlf : l.stackTraces = false) (A : Nat → Nat) (f : Nat → Nat → Int32) (g : Nat → Nat) (H : Heap) (hR : RP G A f g H) (hA : RA G A) (h : IV f g) (i : Nat) (hi : i < g 3) (hl5 : g 5 < 16) : PwV l G A H yL_isRaised wsL_isRaised { frames := 10, cells := 3, slots := 18, locals := 200 } [.ref (A 0), .int (nI i)] (kpt g) := by
  refine pw_of (cc := cL_isRaised) (maxL := 6) (ret := (some .boolean)) (by decide) rfl (Nat.le_of_ble_eq_true rfl) ?_
  intro pZ eZ sZ mZ bZ meZ cZ ls S hr hlk hl hHs hG
  have S : CallFix pZ mZ cZ cL_isRaised 6 sZ _ wsL_isRaised RL := S
  have hx := S.1
  have hb := S.2.1
  have hown := S.2.2.2.1
  have hts := S.2.2.2.2
  have hl : lv_has ls 6 [(0, .ref (A 0)), (1, .int (nI i))] := hl
  have hg0 := h.1.1.1
  have hg1 := h.1.1.2.1
  have hg3 := h.1.1.2.2.1
  have hg4 := h.1.1.2.2.2.1
  have hg5 := h.1.1.2.2.2.2.1
  have hg7 := h.1.1.2.2.2.2.2
  have hDA : ∀ k, rD k → DAr A (A k) := fun k hk => ⟨k, hk, rfl⟩
  have hS0 : va_S (DAr A) H H [] := va_S.rf
  rcases uo_c (f := f) hg0 (nI i) with ⟨u1, u2⟩ | ⟨d, d1, d2, u1, u2, u3⟩
  · have hz := (rF_c h hi).1 u2
    refine lv_aload_n hx hb dL_isRaised_0 rfl (lv_at hl 0 rfl) ?_
    refine lv_iconst (v := nI 1) hx hb dL_isRaised_1 (by decide) ?_
    refine pr_V (As := [.int (nI 1)]) (rest := []) (v := some (.int (mny f g (nI 1)))) S hG (c_X7_many l G hlf A f g H hR (nI 1)) (k_man (by decide)) gL_isRaised_X7_many rfl ⟨rfl, rfl⟩ np_many ⟨Nat.le_of_ble_eq_true rfl, Nat.le_of_ble_eq_true rfl⟩ (rd_rcv hG.1 (rP_0 hR) rfl) rfl hl.1 rfl (Nat.le_of_ble_eq_true rfl) ⟨Nat.le_of_ble_eq_true rfl, Nat.le_of_ble_eq_true rfl⟩ dL_isRaised_2 ?_
    refine W.eq (g2 := F0 mZ 5 ls [.int (mny f g (nI 1))]) rfl ?_
    rw [my_1]
    refine lv_istore_n (lv' := [(2, .int (nI (g 0))), (0, .ref (A 0)), (1, .int (nI i))]) hx hb dL_isRaised_5 rfl hl (by decide) rfl (fun ls hl => ?_)
    refine lv_aload_n hx hb dL_isRaised_6 rfl (lv_at hl 1 rfl) ?_
    refine lv_iload_n hx hb dL_isRaised_7 rfl (lv_at hl 2 rfl) ?_
    refine pr_V (As := [.int (nI i)]) (rest := []) (v := some (.int (rFo f g (nI i)))) S hG (c_X7_raiseFor l G hlf A f g H hR (nI i) hg0) (k_ix hi (by omega)) gL_isRaised_X7_raiseFor rfl ⟨rfl, rfl⟩ np_raiseFor ⟨Nat.le_of_ble_eq_true rfl, Nat.le_of_ble_eq_true rfl⟩ (rd_rcv hG.1 (rP_0 hR) rfl) rfl hl.1 rfl (Nat.le_of_ble_eq_true rfl) ⟨Nat.le_of_ble_eq_true rfl, Nat.le_of_ble_eq_true rfl⟩ dL_isRaised_8 ?_
    refine W.eq (g2 := F0 mZ 11 ls [.int (rFo f g (nI i))]) rfl ?_
    rw [hz]
    refine lv_istore_n (lv' := [(3, .int 0), (2, .int (nI (g 0))), (0, .ref (A 0)), (1, .int (nI i))]) hx hb dL_isRaised_11 rfl hl (by decide) rfl (fun ls hl => ?_)
    refine lv_aload_n hx hb dL_isRaised_12 rfl (lv_at hl 2 rfl) ?_
    refine lv_iload_n hx hb dL_isRaised_13 rfl (lv_at hl 3 rfl) ?_
    refine pr_V (As := [.int (nI i)]) (rest := []) (v := some (.int (uOn f g (nI i) (400 - g 0) 0))) S hG (c_X7_unsafeOn l G hlf A f g H hR (nI i) hg0) (k_ix hi (by omega)) gL_isRaised_X7_unsafeOn rfl ⟨rfl, rfl⟩ np_unsafeOn ⟨Nat.le_of_ble_eq_true rfl, Nat.le_of_ble_eq_true rfl⟩ (rd_rcv hG.1 (rP_0 hR) rfl) rfl hl.1 rfl (Nat.le_of_ble_eq_true rfl) ⟨Nat.le_of_ble_eq_true rfl, Nat.le_of_ble_eq_true rfl⟩ dL_isRaised_14 ?_
    refine W.eq (g2 := F0 mZ 17 ls [.int (uOn f g (nI i) (400 - g 0) 0)]) rfl ?_
    rw [u1]
    refine lv_istore (lv' := [(4, .int (-1)), (3, .int 0), (2, .int (nI (g 0))), (0, .ref (A 0)), (1, .int (nI i))]) hx hb dL_isRaised_17 hl (by decide) rfl (fun ls hl => ?_)
    refine lv_iload_n hx hb dL_isRaised_19 rfl (lv_at hl 1 rfl) ?_
    refine lv_if_ne (tgt := 27) hx hb dL_isRaised_20 (by decide) (fun c => absurd rfl c) (fun _ => ?_)
    refine lv_iconst (v := nI 1) hx hb dL_isRaised_23 (by decide) ?_
    refine lv_goto (tgt := 28) hx hb dL_isRaised_24 (by decide) ?_
    refine lv_iload hx hb dL_isRaised_28 (lv_at hl 0 rfl) ?_
    refine lv_if_ge (tgt := 37) hx hb dL_isRaised_30 (by decide) (fun c => absurd c (by decide)) (fun _ => ?_)
    refine lv_iconst (v := nI 1) hx hb dL_isRaised_33 (by decide) ?_
    refine lv_goto (tgt := 38) hx hb dL_isRaised_34 (by decide) ?_
    refine lv_icmp_ne (tgt := 48) hx hb dL_isRaised_38 (by decide) (fun c => absurd rfl c) (fun _ => ?_)
    refine lv_iload_n hx hb dL_isRaised_41 rfl (lv_at hl 1 rfl) ?_
    refine lv_sipush (v := nI 500) hx hb dL_isRaised_42 (by decide) ?_
    refine lv_icmp_le (tgt := 50) hx hb dL_isRaised_45 (by decide) (fun _ => ?_) (fun c => absurd (by decide) c)
    refine lv_iload_n hx hb dL_isRaised_50 rfl (lv_at hl 1 rfl) ?_
    refine lv_if_gt (tgt := 56) hx hb dL_isRaised_51 (by decide) (fun c => absurd c (by decide)) (fun _ => ?_)
    refine lv_iconst (v := nI 1) hx hb dL_isRaised_54 (by decide) ?_
    exact pw_zret S hr hlk hS0 hR ⟨h, rfl, rfl, rfl⟩ ⟨by decide, by decide⟩ dL_isRaised_55 rfl
  · rcases (rF_c h hi).2 ⟨d, d1, d2, u2⟩ with hm | ⟨V, v1, v2, v3, v4⟩
    · refine lv_aload_n hx hb dL_isRaised_0 rfl (lv_at hl 0 rfl) ?_
      refine lv_iconst (v := nI 1) hx hb dL_isRaised_1 (by decide) ?_
      refine pr_V (As := [.int (nI 1)]) (rest := []) (v := some (.int (mny f g (nI 1)))) S hG (c_X7_many l G hlf A f g H hR (nI 1)) (k_man (by decide)) gL_isRaised_X7_many rfl ⟨rfl, rfl⟩ np_many ⟨Nat.le_of_ble_eq_true rfl, Nat.le_of_ble_eq_true rfl⟩ (rd_rcv hG.1 (rP_0 hR) rfl) rfl hl.1 rfl (Nat.le_of_ble_eq_true rfl) ⟨Nat.le_of_ble_eq_true rfl, Nat.le_of_ble_eq_true rfl⟩ dL_isRaised_2 ?_
      refine W.eq (g2 := F0 mZ 5 ls [.int (mny f g (nI 1))]) rfl ?_
      rw [my_1]
      refine lv_istore_n (lv' := [(2, .int (nI (g 0))), (0, .ref (A 0)), (1, .int (nI i))]) hx hb dL_isRaised_5 rfl hl (by decide) rfl (fun ls hl => ?_)
      refine lv_aload_n hx hb dL_isRaised_6 rfl (lv_at hl 1 rfl) ?_
      refine lv_iload_n hx hb dL_isRaised_7 rfl (lv_at hl 2 rfl) ?_
      refine pr_V (As := [.int (nI i)]) (rest := []) (v := some (.int (rFo f g (nI i)))) S hG (c_X7_raiseFor l G hlf A f g H hR (nI i) hg0) (k_ix hi (by omega)) gL_isRaised_X7_raiseFor rfl ⟨rfl, rfl⟩ np_raiseFor ⟨Nat.le_of_ble_eq_true rfl, Nat.le_of_ble_eq_true rfl⟩ (rd_rcv hG.1 (rP_0 hR) rfl) rfl hl.1 rfl (Nat.le_of_ble_eq_true rfl) ⟨Nat.le_of_ble_eq_true rfl, Nat.le_of_ble_eq_true rfl⟩ dL_isRaised_8 ?_
      refine W.eq (g2 := F0 mZ 11 ls [.int (rFo f g (nI i))]) rfl ?_
      rw [hm]
      refine lv_istore_n (lv' := [(3, .int (-1)), (2, .int (nI (g 0))), (0, .ref (A 0)), (1, .int (nI i))]) hx hb dL_isRaised_11 rfl hl (by decide) rfl (fun ls hl => ?_)
      refine lv_aload_n hx hb dL_isRaised_12 rfl (lv_at hl 2 rfl) ?_
      refine lv_iload_n hx hb dL_isRaised_13 rfl (lv_at hl 3 rfl) ?_
      refine pr_V (As := [.int (nI i)]) (rest := []) (v := some (.int (uOn f g (nI i) (400 - g 0) 0))) S hG (c_X7_unsafeOn l G hlf A f g H hR (nI i) hg0) (k_ix hi (by omega)) gL_isRaised_X7_unsafeOn rfl ⟨rfl, rfl⟩ np_unsafeOn ⟨Nat.le_of_ble_eq_true rfl, Nat.le_of_ble_eq_true rfl⟩ (rd_rcv hG.1 (rP_0 hR) rfl) rfl hl.1 rfl (Nat.le_of_ble_eq_true rfl) ⟨Nat.le_of_ble_eq_true rfl, Nat.le_of_ble_eq_true rfl⟩ dL_isRaised_14 ?_
      refine W.eq (g2 := F0 mZ 17 ls [.int (uOn f g (nI i) (400 - g 0) 0)]) rfl ?_
      rw [u1]
      refine lv_istore (lv' := [(4, .int (nI d)), (3, .int (-1)), (2, .int (nI (g 0))), (0, .ref (A 0)), (1, .int (nI i))]) hx hb dL_isRaised_17 hl (by decide) rfl (fun ls hl => ?_)
      refine lv_iload_n hx hb dL_isRaised_19 rfl (lv_at hl 1 rfl) ?_
      refine lv_if_ne (tgt := 27) hx hb dL_isRaised_20 (by decide) (fun _ => ?_) (fun c => absurd c (by decide))
      refine lv_iconst (v := nI 0) hx hb dL_isRaised_27 (by decide) ?_
      refine lv_iload hx hb dL_isRaised_28 (lv_at hl 0 rfl) ?_
      refine lv_if_ge (tgt := 37) hx hb dL_isRaised_30 (by decide) (fun _ => ?_) (fun c => absurd (nI_pos' (by omega)) c)
      refine lv_iconst (v := nI 0) hx hb dL_isRaised_37 (by decide) ?_
      refine lv_icmp_ne (tgt := 48) hx hb dL_isRaised_38 (by decide) (fun c => absurd rfl c) (fun _ => ?_)
      refine lv_iload_n hx hb dL_isRaised_41 rfl (lv_at hl 1 rfl) ?_
      refine lv_sipush (v := nI 500) hx hb dL_isRaised_42 (by decide) ?_
      refine lv_icmp_le (tgt := 50) hx hb dL_isRaised_45 (by decide) (fun _ => ?_) (fun c => absurd (by decide) c)
      refine lv_iload_n hx hb dL_isRaised_50 rfl (lv_at hl 1 rfl) ?_
      refine lv_if_gt (tgt := 56) hx hb dL_isRaised_51 (by decide) (fun c => absurd c (by decide)) (fun _ => ?_)
      refine lv_iconst (v := nI 1) hx hb dL_isRaised_54 (by decide) ?_
      exact pw_zret S hr hlk hS0 hR ⟨h, rfl, rfl, rfl⟩ ⟨by decide, by decide⟩ dL_isRaised_55 rfl
    · refine lv_aload_n hx hb dL_isRaised_0 rfl (lv_at hl 0 rfl) ?_
      refine lv_iconst (v := nI 1) hx hb dL_isRaised_1 (by decide) ?_
      refine pr_V (As := [.int (nI 1)]) (rest := []) (v := some (.int (mny f g (nI 1)))) S hG (c_X7_many l G hlf A f g H hR (nI 1)) (k_man (by decide)) gL_isRaised_X7_many rfl ⟨rfl, rfl⟩ np_many ⟨Nat.le_of_ble_eq_true rfl, Nat.le_of_ble_eq_true rfl⟩ (rd_rcv hG.1 (rP_0 hR) rfl) rfl hl.1 rfl (Nat.le_of_ble_eq_true rfl) ⟨Nat.le_of_ble_eq_true rfl, Nat.le_of_ble_eq_true rfl⟩ dL_isRaised_2 ?_
      refine W.eq (g2 := F0 mZ 5 ls [.int (mny f g (nI 1))]) rfl ?_
      rw [my_1]
      refine lv_istore_n (lv' := [(2, .int (nI (g 0))), (0, .ref (A 0)), (1, .int (nI i))]) hx hb dL_isRaised_5 rfl hl (by decide) rfl (fun ls hl => ?_)
      refine lv_aload_n hx hb dL_isRaised_6 rfl (lv_at hl 1 rfl) ?_
      refine lv_iload_n hx hb dL_isRaised_7 rfl (lv_at hl 2 rfl) ?_
      refine pr_V (As := [.int (nI i)]) (rest := []) (v := some (.int (rFo f g (nI i)))) S hG (c_X7_raiseFor l G hlf A f g H hR (nI i) hg0) (k_ix hi (by omega)) gL_isRaised_X7_raiseFor rfl ⟨rfl, rfl⟩ np_raiseFor ⟨Nat.le_of_ble_eq_true rfl, Nat.le_of_ble_eq_true rfl⟩ (rd_rcv hG.1 (rP_0 hR) rfl) rfl hl.1 rfl (Nat.le_of_ble_eq_true rfl) ⟨Nat.le_of_ble_eq_true rfl, Nat.le_of_ble_eq_true rfl⟩ dL_isRaised_8 ?_
      refine W.eq (g2 := F0 mZ 11 ls [.int (rFo f g (nI i))]) rfl ?_
      rw [v3]
      refine lv_istore_n (lv' := [(3, .int (nI V)), (2, .int (nI (g 0))), (0, .ref (A 0)), (1, .int (nI i))]) hx hb dL_isRaised_11 rfl hl (by decide) rfl (fun ls hl => ?_)
      refine lv_aload_n hx hb dL_isRaised_12 rfl (lv_at hl 2 rfl) ?_
      refine lv_iload_n hx hb dL_isRaised_13 rfl (lv_at hl 3 rfl) ?_
      refine pr_V (As := [.int (nI i)]) (rest := []) (v := some (.int (uOn f g (nI i) (400 - g 0) 0))) S hG (c_X7_unsafeOn l G hlf A f g H hR (nI i) hg0) (k_ix hi (by omega)) gL_isRaised_X7_unsafeOn rfl ⟨rfl, rfl⟩ np_unsafeOn ⟨Nat.le_of_ble_eq_true rfl, Nat.le_of_ble_eq_true rfl⟩ (rd_rcv hG.1 (rP_0 hR) rfl) rfl hl.1 rfl (Nat.le_of_ble_eq_true rfl) ⟨Nat.le_of_ble_eq_true rfl, Nat.le_of_ble_eq_true rfl⟩ dL_isRaised_14 ?_
      refine W.eq (g2 := F0 mZ 17 ls [.int (uOn f g (nI i) (400 - g 0) 0)]) rfl ?_
      rw [u1]
      refine lv_istore (lv' := [(4, .int (nI d)), (3, .int (nI V)), (2, .int (nI (g 0))), (0, .ref (A 0)), (1, .int (nI i))]) hx hb dL_isRaised_17 hl (by decide) rfl (fun ls hl => ?_)
      refine lv_iload_n hx hb dL_isRaised_19 rfl (lv_at hl 1 rfl) ?_
      refine lv_if_ne (tgt := 27) hx hb dL_isRaised_20 (by decide) (fun _ => ?_) (fun c => absurd c (nI_ne0 (by omega) (by omega)))
      refine lv_iconst (v := nI 0) hx hb dL_isRaised_27 (by decide) ?_
      refine lv_iload hx hb dL_isRaised_28 (lv_at hl 0 rfl) ?_
      refine lv_if_ge (tgt := 37) hx hb dL_isRaised_30 (by decide) (fun _ => ?_) (fun c => absurd (nI_pos' (by omega)) c)
      refine lv_iconst (v := nI 0) hx hb dL_isRaised_37 (by decide) ?_
      refine lv_icmp_ne (tgt := 48) hx hb dL_isRaised_38 (by decide) (fun c => absurd rfl c) (fun _ => ?_)
      refine lv_iload_n hx hb dL_isRaised_41 rfl (lv_at hl 1 rfl) ?_
      refine lv_sipush (v := nI 500) hx hb dL_isRaised_42 (by decide) ?_
      refine lv_icmp_le (tgt := 50) hx hb dL_isRaised_45 (by decide) (fun _ => ?_) (fun c => absurd (nI_le (by omega) (by decide)) c)
      refine lv_iload_n hx hb dL_isRaised_50 rfl (lv_at hl 1 rfl) ?_
      refine lv_if_gt (tgt := 56) hx hb dL_isRaised_51 (by decide) (fun _ => ?_) (fun c => absurd (nI_lt (a := 0) (by omega) (by omega)) c)
      refine lv_aload_n hx hb dL_isRaised_56 rfl (lv_at hl 3 rfl) ?_
      refine lv_iload_n hx hb dL_isRaised_57 rfl (lv_at hl 4 rfl) ?_
      refine lv_iload_n hx hb dL_isRaised_58 rfl (lv_at hl 1 rfl) ?_
      refine lv_iload_n hx hb dL_isRaised_59 rfl (lv_at hl 2 rfl) ?_
      refine lv_sipush (v := nI 399) hx hb dL_isRaised_60 (by decide) ?_
      refine pw_V (As := [.int (nI i), .int (nI V), .int (nI (g 0)), .int (nI 399)]) (rest := []) (v := some (.int (nI (g 5)))) S hA hG hS0 hDA (c_X7_raise l G hlf A f g H hR hA (nI i) (nI V) (nI (g 0)) (nI 399)) (kOr_nn (k_ix hi (by omega)) (kOr_nn (ka_n (lo := 1) (hi := 500) rfl rfl v1 v2 (by decide)) (kOr_nn (k_ti (Nat.le_refl _) hg0 (Nat.le_refl _)) (k_nl hl5)))) gL_isRaised_X7_raise rfl ⟨rfl, rfl⟩ np_raise ⟨Nat.le_of_ble_eq_true rfl, Nat.le_of_ble_eq_true rfl⟩ (rd_rcv hG.1 (rP_0 hR) rfl) rfl hl.1 rfl (Nat.le_of_ble_eq_true rfl) ⟨Nat.le_of_ble_eq_true rfl, Nat.le_of_ble_eq_true rfl⟩ dL_isRaised_63 (fun H1 locs1 hR1 hS1 hG1 => ?_)
      refine W.eq (g2 := F0 mZ 66 ls [.int (nI (g 5))]) rfl ?_
      have hIV1 : IV (noAdd f g 0 (nI i) (nI V) (nI (g 0)) (nI 399)) (gset g 5 (g 5 + 1)) := iv_notice h (by decide) hl5 (by rw [znI (by omega)]; omega)
      have hn1 : ∀ D, g 0 ≤ D → D ≤ 399 → ¬ isUn (noAdd f g 0 (nI i) (nI V) (nI (g 0)) (nI 399)) (gset g 5 (g 5 + 1)) (nI i) (nI D) = true := fun D a1 a2 => ra_un h hi hl5 v2 v4 a1 a2
      have hu1 : uOn (noAdd f g 0 (nI i) (nI V) (nI (g 0)) (nI 399)) (gset g 5 (g 5 + 1)) (nI i) (400 - g 0) 0 = -1 := by
        rcases uo_c (f := noAdd f g 0 (nI i) (nI V) (nI (g 0)) (nI 399)) (g := gset g 5 (g 5 + 1)) hg0 (nI i) with ⟨a9, -⟩ | ⟨d9, a1, a2, -, a4, -⟩
        · exact a9
        · exact absurd a4 (hn1 d9 a1 a2)
      have hr1 : rFo (noAdd f g 0 (nI i) (nI V) (nI (g 0)) (nI 399)) (gset g 5 (g 5 + 1)) (nI i) = 0 := (rF_c hIV1 hi).1 hn1
      refine lv_istore (lv' := [(5, .int (nI (g 5))), (4, .int (nI d)), (3, .int (nI V)), (2, .int (nI (g 0))), (0, .ref (A 0)), (1, .int (nI i))]) hx hb dL_isRaised_66 hl (by decide) rfl (fun ls hl => ?_)
      refine lv_aload_n hx hb dL_isRaised_68 rfl (lv_at hl 4 rfl) ?_
      refine lv_iload_n hx hb dL_isRaised_69 rfl (lv_at hl 5 rfl) ?_
      refine pr_V (As := [.int (nI i)]) (rest := []) (v := some (.int (uOn (noAdd f g 0 (nI i) (nI V) (nI (g 0)) (nI 399)) (gset g 5 (g 5 + 1)) (nI i) (400 - g 0) 0))) S hG1 (c_X7_unsafeOn l G hlf A (noAdd f g 0 (nI i) (nI V) (nI (g 0)) (nI 399)) (gset g 5 (g 5 + 1)) H1 hR1 (nI i) hg0) (k_ix (n := gset g 5 (g 5 + 1) 3) hi (by show g 3 < 65536; omega)) gL_isRaised_X7_unsafeOn rfl ⟨rfl, rfl⟩ np_unsafeOn ⟨Nat.le_of_ble_eq_true rfl, Nat.le_of_ble_eq_true rfl⟩ (rd_rcv hG1.1 (rP_0 hR1) rfl) rfl hl.1 rfl (Nat.le_of_ble_eq_true rfl) ⟨Nat.le_of_ble_eq_true rfl, Nat.le_of_ble_eq_true rfl⟩ dL_isRaised_70 ?_
      refine W.eq (g2 := F0 mZ 73 ls [.int (uOn (noAdd f g 0 (nI i) (nI V) (nI (g 0)) (nI 399)) (gset g 5 (g 5 + 1)) (nI i) (400 - g 0) 0)]) rfl ?_
      rw [hu1]
      refine lv_iconst (v := (-1)) hx hb dL_isRaised_73 (by decide) ?_
      refine lv_icmp_ne (tgt := 85) hx hb dL_isRaised_74 (by decide) (fun c => absurd rfl c) (fun _ => ?_)
      refine lv_aload_n hx hb dL_isRaised_77 rfl (lv_at hl 4 rfl) ?_
      refine lv_iload_n hx hb dL_isRaised_78 rfl (lv_at hl 5 rfl) ?_
      refine pr_V (As := [.int (nI i)]) (rest := []) (v := some (.int (rFo (noAdd f g 0 (nI i) (nI V) (nI (g 0)) (nI 399)) (gset g 5 (g 5 + 1)) (nI i)))) S hG1 (c_X7_raiseFor l G hlf A (noAdd f g 0 (nI i) (nI V) (nI (g 0)) (nI 399)) (gset g 5 (g 5 + 1)) H1 hR1 (nI i) hg0) (k_ix (n := gset g 5 (g 5 + 1) 3) hi (by show g 3 < 65536; omega)) gL_isRaised_X7_raiseFor rfl ⟨rfl, rfl⟩ np_raiseFor ⟨Nat.le_of_ble_eq_true rfl, Nat.le_of_ble_eq_true rfl⟩ (rd_rcv hG1.1 (rP_0 hR1) rfl) rfl hl.1 rfl (Nat.le_of_ble_eq_true rfl) ⟨Nat.le_of_ble_eq_true rfl, Nat.le_of_ble_eq_true rfl⟩ dL_isRaised_79 ?_
      refine W.eq (g2 := F0 mZ 82 ls [.int (rFo (noAdd f g 0 (nI i) (nI V) (nI (g 0)) (nI 399)) (gset g 5 (g 5 + 1)) (nI i))]) rfl ?_
      rw [hr1]
      refine lv_if_eq (tgt := 87) hx hb dL_isRaised_82 (by decide) (fun _ => ?_) (fun c => absurd rfl c)
      refine lv_aload_n hx hb dL_isRaised_87 rfl (lv_at hl 4 rfl) ?_
      refine lv_iconst (v := nI 4) hx hb dL_isRaised_88 (by decide) ?_
      refine pr_V (As := [.int (nI 4)]) (rest := []) (v := some (.int (mny (noAdd f g 0 (nI i) (nI V) (nI (g 0)) (nI 399)) (gset g 5 (g 5 + 1)) (nI 4)))) S hG1 (c_X7_many l G hlf A (noAdd f g 0 (nI i) (nI V) (nI (g 0)) (nI 399)) (gset g 5 (g 5 + 1)) H1 hR1 (nI 4)) (k_man (by decide)) gL_isRaised_X7_many rfl ⟨rfl, rfl⟩ np_many ⟨Nat.le_of_ble_eq_true rfl, Nat.le_of_ble_eq_true rfl⟩ (rd_rcv hG1.1 (rP_0 hR1) rfl) rfl hl.1 rfl (Nat.le_of_ble_eq_true rfl) ⟨Nat.le_of_ble_eq_true rfl, Nat.le_of_ble_eq_true rfl⟩ dL_isRaised_89 ?_
      refine W.eq (g2 := F0 mZ 92 ls [.int (mny (noAdd f g 0 (nI i) (nI V) (nI (g 0)) (nI 399)) (gset g 5 (g 5 + 1)) (nI 4))]) rfl ?_
      rw [my_4]
      refine W.eq (g2 := F0 mZ 92 ls [.int (nI (g 5 + 1))]) rfl ?_
      refine lv_bipush (v := nI 16) hx hb dL_isRaised_92 (by decide) ?_
      by_cases hfull : g 5 + 1 = 16
      · refine lv_icmp_ne (tgt := 99) hx hb dL_isRaised_94 (by decide) (fun c => absurd (congrArg nI hfull) c) (fun _ => ?_)
        refine lv_iconst (v := nI 1) hx hb dL_isRaised_97 (by decide) ?_
        exact pw_zret S hr hlk hS1 hR1 ⟨hIV1, rfl, rfl, rfl⟩ ⟨by decide, by decide⟩ dL_isRaised_98 rfl
      · refine lv_icmp_ne (tgt := 99) hx hb dL_isRaised_94 (by decide) (fun _ => ?_) (fun c => absurd c (fun z => hfull ((nI_eq (by omega) (by decide)).mp z)))
        refine lv_aload_n hx hb dL_isRaised_99 rfl (lv_at hl 4 rfl) ?_
        refine lv_iload hx hb dL_isRaised_100 (lv_at hl 0 rfl) ?_
        refine pw_V (As := [.int (nI (g 5))]) (rest := []) (v := some (.int (nI (g 5 + 1)))) S hA hG1 hS1 hDA (c_X7_cancel l G hlf A (noAdd f g 0 (nI i) (nI V) (nI (g 0)) (nI 399)) (gset g 5 (g 5 + 1)) H1 hR1 hA (nI (g 5))) (kOr_nn (k_ix (n := gset g 5 (g 5 + 1) 5) (show g 5 < g 5 + 1 by omega) (by show g 5 + 1 < 65536; omega)) (kOr_nn (if_neg (by rw [rowAt_in hl5 (by decide), noAdd_22 hl5]; decide)) (k_nl (show g 5 + 1 < 16 by omega)))) gL_isRaised_X7_cancel rfl ⟨rfl, rfl⟩ np_cancel ⟨Nat.le_of_ble_eq_true rfl, Nat.le_of_ble_eq_true rfl⟩ (rd_rcv hG1.1 (rP_0 hR1) rfl) rfl hl.1 rfl (Nat.le_of_ble_eq_true rfl) ⟨Nat.le_of_ble_eq_true rfl, Nat.le_of_ble_eq_true rfl⟩ dL_isRaised_102 (fun H2 locs2 hR2 hS2 hG2 => ?_)
        refine W.eq (g2 := F0 mZ 105 ls [.int (nI (g 5 + 1))]) rfl ?_
        refine lv_iload hx hb dL_isRaised_105 (lv_at hl 0 rfl) ?_
        refine lv_iconst (v := nI 1) hx hb dL_isRaised_107 (by decide) ?_
        refine lv_iadd hx hb dL_isRaised_108 ?_
        rw [nI_add (g 5) 1]
        refine lv_icmp_ne (tgt := 135) hx hb dL_isRaised_109 (by decide) (fun c => absurd rfl c) (fun _ => ?_)
        refine lv_aload_n hx hb dL_isRaised_112 rfl (lv_at hl 4 rfl) ?_
        refine lv_iload_n hx hb dL_isRaised_113 rfl (lv_at hl 5 rfl) ?_
        refine pr_V (As := [.int (nI i)]) (rest := []) (v := some (.int (uOn (caAdd (noAdd f g 0 (nI i) (nI V) (nI (g 0)) (nI 399)) (gset g 5 (g 5 + 1)) (nI (g 5)) (nI (g 0))) (gset (gset g 5 (g 5 + 1)) 5 (g 5 + 1 + 1)) (nI i) (400 - g 0) 0))) S hG2 (c_X7_unsafeOn l G hlf A (caAdd (noAdd f g 0 (nI i) (nI V) (nI (g 0)) (nI 399)) (gset g 5 (g 5 + 1)) (nI (g 5)) (nI (g 0))) (gset (gset g 5 (g 5 + 1)) 5 (g 5 + 1 + 1)) H2 hR2 (nI i) hg0) (k_ix (n := gset (gset g 5 (g 5 + 1)) 5 (g 5 + 1 + 1) 3) hi (by show g 3 < 65536; omega)) gL_isRaised_X7_unsafeOn rfl ⟨rfl, rfl⟩ np_unsafeOn ⟨Nat.le_of_ble_eq_true rfl, Nat.le_of_ble_eq_true rfl⟩ (rd_rcv hG2.1 (rP_0 hR2) rfl) rfl hl.1 rfl (Nat.le_of_ble_eq_true rfl) ⟨Nat.le_of_ble_eq_true rfl, Nat.le_of_ble_eq_true rfl⟩ dL_isRaised_114 ?_
        refine W.eq (g2 := F0 mZ 117 ls [.int (uOn (caAdd (noAdd f g 0 (nI i) (nI V) (nI (g 0)) (nI 399)) (gset g 5 (g 5 + 1)) (nI (g 5)) (nI (g 0))) (gset (gset g 5 (g 5 + 1)) 5 (g 5 + 1 + 1)) (nI i) (400 - g 0) 0)]) rfl ?_
        rw [ca_uo h.1 (by omega), u1]
        refine lv_iload hx hb dL_isRaised_117 (lv_at hl 1 rfl) ?_
        refine lv_icmp_ne (tgt := 135) hx hb dL_isRaised_119 (by decide) (fun c => absurd rfl c) (fun _ => ?_)
        refine lv_aload_n hx hb dL_isRaised_122 rfl (lv_at hl 4 rfl) ?_
        refine lv_iload_n hx hb dL_isRaised_123 rfl (lv_at hl 5 rfl) ?_
        refine pr_V (As := [.int (nI i)]) (rest := []) (v := some (.int (rFo (caAdd (noAdd f g 0 (nI i) (nI V) (nI (g 0)) (nI 399)) (gset g 5 (g 5 + 1)) (nI (g 5)) (nI (g 0))) (gset (gset g 5 (g 5 + 1)) 5 (g 5 + 1 + 1)) (nI i)))) S hG2 (c_X7_raiseFor l G hlf A (caAdd (noAdd f g 0 (nI i) (nI V) (nI (g 0)) (nI 399)) (gset g 5 (g 5 + 1)) (nI (g 5)) (nI (g 0))) (gset (gset g 5 (g 5 + 1)) 5 (g 5 + 1 + 1)) H2 hR2 (nI i) hg0) (k_ix (n := gset (gset g 5 (g 5 + 1)) 5 (g 5 + 1 + 1) 3) hi (by show g 3 < 65536; omega)) gL_isRaised_X7_raiseFor rfl ⟨rfl, rfl⟩ np_raiseFor ⟨Nat.le_of_ble_eq_true rfl, Nat.le_of_ble_eq_true rfl⟩ (rd_rcv hG2.1 (rP_0 hR2) rfl) rfl hl.1 rfl (Nat.le_of_ble_eq_true rfl) ⟨Nat.le_of_ble_eq_true rfl, Nat.le_of_ble_eq_true rfl⟩ dL_isRaised_124 ?_
        refine W.eq (g2 := F0 mZ 127 ls [.int (rFo (caAdd (noAdd f g 0 (nI i) (nI V) (nI (g 0)) (nI 399)) (gset g 5 (g 5 + 1)) (nI (g 5)) (nI (g 0))) (gset (gset g 5 (g 5 + 1)) 5 (g 5 + 1 + 1)) (nI i))]) rfl ?_
        rw [ca_rF h.1 (by omega), v3]
        refine lv_iload_n hx hb dL_isRaised_127 rfl (lv_at hl 2 rfl) ?_
        refine lv_icmp_ne (tgt := 135) hx hb dL_isRaised_128 (by decide) (fun c => absurd rfl c) (fun _ => ?_)
        refine lv_iconst (v := nI 1) hx hb dL_isRaised_131 (by decide) ?_
        refine lv_goto (tgt := 136) hx hb dL_isRaised_132 (by decide) ?_
        exact pw_zret S hr hlk hS2 hR2 ⟨iv_cancel hIV1 (show g 5 < g 5 + 1 by omega) (by rw [noAdd_22 hl5]; decide) (show g 5 + 1 < 16 by omega), rfl, rfl, rfl⟩ ⟨by decide, by decide⟩ dL_isRaised_136 rfl
