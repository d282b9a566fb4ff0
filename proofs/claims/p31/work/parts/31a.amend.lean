set_option maxHeartbeats 4000000 in
set_option maxRecDepth 100000 in
theorem c_L_isAmended (l : Launch) (G : GT) (hlf : l.stackTraces = false) (A : Nat → Nat) (f : Nat → Nat → Int32) (g : Nat → Nat) (H : Heap) (hR : RP G A f g H) (hA : RA G A) (h : IV f g) (i : Nat) (hi : i < g 3) (hn : g 0 < 370) (hl4 : g 4 < 20) : PwV l G A H yL_isAmended wsL_isAmended { frames := 10, cells := 3, slots := 18, locals := 200 } [.ref (A 0), .int (nI i)] (kpt g) := by
  refine pw_of (cc := cL_isAmended) (maxL := 8) (ret := (some .boolean)) (by decide) rfl (Nat.le_of_ble_eq_true rfl) ?_
  intro pZ eZ sZ mZ bZ meZ cZ ls S hr hlk hl hHs hG
  have S : CallFix pZ mZ cZ cL_isAmended 8 sZ _ wsL_isAmended RL := S
  have hx := S.1
  have hb := S.2.1
  have hown := S.2.2.2.1
  have hts := S.2.2.2.2
  have hl : lv_has ls 8 [(0, .ref (A 0)), (1, .int (nI i))] := hl
  have hg0 := h.1.1.1
  have hg1 := h.1.1.2.1
  have hg3 := h.1.1.2.2.1
  have hg4 := h.1.1.2.2.2.1
  have hg5 := h.1.1.2.2.2.2.1
  have hg7 := h.1.1.2.2.2.2.2
  have hDA : ∀ k, rD k → DAr A (A k) := fun k hk => ⟨k, hk, rfl⟩
  have hS0 : va_S (DAr A) H H [] := va_S.rf
  have hF : 28 ≤ frN g ∧ frN g ≤ 399 := by unfold frN; omega
  obtain ⟨q, q1, q2, q3⟩ := amH_b h.1 hi hF.2
  refine lv_aload_n hx hb dL_isAmended_0 rfl (lv_at hl 0 rfl) ?_
  refine lv_iconst (v := nI 1) hx hb dL_isAmended_1 (by decide) ?_
  refine pr_V (As := [.int (nI 1)]) (rest := []) (v := some (.int (mny f g (nI 1)))) S hG (c_X7_many l G hlf A f g H hR (nI 1)) (k_man (by decide)) gL_isAmended_X7_many rfl ⟨rfl, rfl⟩ np_many ⟨Nat.le_of_ble_eq_true rfl, Nat.le_of_ble_eq_true rfl⟩ (rd_rcv hG.1 (rP_0 hR) rfl) rfl hl.1 rfl (Nat.le_of_ble_eq_true rfl) ⟨Nat.le_of_ble_eq_true rfl, Nat.le_of_ble_eq_true rfl⟩ dL_isAmended_2 ?_
  refine W.eq (g2 := F0 mZ 5 ls [.int (mny f g (nI 1))]) rfl ?_
  rw [my_1]
  refine lv_istore_n (lv' := [(2, .int (nI (g 0))), (0, .ref (A 0)), (1, .int (nI i))]) hx hb dL_isAmended_5 rfl hl (by decide) rfl (fun ls hl => ?_)
  refine lv_iload_n hx hb dL_isAmended_6 rfl (lv_at hl 0 rfl) ?_
  refine lv_bipush (v := nI 14) hx hb dL_isAmended_7 (by decide) ?_
  refine lv_iadd hx hb dL_isAmended_9 ?_
  rw [nI_add (g 0) 14]
  refine lv_bipush (v := nI 28) hx hb dL_isAmended_10 (by decide) ?_
  refine lv_iload_n hx hb dL_isAmended_12 rfl (lv_at hl 0 rfl) ?_
  refine lv_bipush (v := nI 14) hx hb dL_isAmended_13 (by decide) ?_
  refine lv_iadd hx hb dL_isAmended_15 ?_
  rw [nI_add (g 0) 14]
  refine lv_bipush (v := nI 28) hx hb dL_isAmended_16 (by decide) ?_
  refine lv_irem hx hb dL_isAmended_18 (by decide) ?_
  rw [pk_rem (a := g 0 + 14) (d := 28) (by omega) (by decide) (by decide)]
  refine lv_isub hx hb dL_isAmended_19 ?_
  rw [pk_sub (a := 28) (b := (g 0 + 14) % 28) (by omega)]
  refine lv_bipush (v := nI 28) hx hb dL_isAmended_20 (by decide) ?_
  refine lv_irem hx hb dL_isAmended_22 (by decide) ?_
  rw [pk_rem (a := 28 - (g 0 + 14) % 28) (d := 28) (by omega) (by decide) (by decide)]
  refine lv_iadd hx hb dL_isAmended_23 ?_
  rw [nI_add (g 0 + 14) ((28 - (g 0 + 14) % 28) % 28)]
  rw [show g 0 + 14 + (28 - (g 0 + 14) % 28) % 28 = frN g from am_d (g 0)]
  refine lv_istore_n (lv' := [(3, .int (nI (frN g))), (2, .int (nI (g 0))), (0, .ref (A 0)), (1, .int (nI i))]) hx hb dL_isAmended_24 rfl hl (by decide) rfl (fun ls hl => ?_)
  refine lv_aload_n hx hb dL_isAmended_25 rfl (lv_at hl 2 rfl) ?_
  refine lv_iload_n hx hb dL_isAmended_26 rfl (lv_at hl 3 rfl) ?_
  refine lv_iload_n hx hb dL_isAmended_27 rfl (lv_at hl 0 rfl) ?_
  refine lv_iconst (v := nI 1) hx hb dL_isAmended_28 (by decide) ?_
  refine lv_isub hx hb dL_isAmended_29 ?_
  rw [pk_sub (a := frN g) (b := 1) (by omega)]
  refine pr_V (As := [.int (nI i), .int (nI (frN g - 1))]) (rest := []) (v := some (.int (hOn f (nI i) (nI (frN g - 1)) (g 4)))) S hG (c_X7_chart l G hlf A f g H hR (nI i) (nI (frN g - 1))) (kOr_nn (k_ix hi (by omega)) (k_day (by omega))) gL_isAmended_X7_chart rfl ⟨rfl, rfl⟩ np_chart ⟨Nat.le_of_ble_eq_true rfl, Nat.le_of_ble_eq_true rfl⟩ (rd_rcv hG.1 (rP_0 hR) rfl) rfl hl.1 rfl (Nat.le_of_ble_eq_true rfl) ⟨Nat.le_of_ble_eq_true rfl, Nat.le_of_ble_eq_true rfl⟩ dL_isAmended_30 ?_
  refine W.eq (g2 := F0 mZ 33 ls [.int (hOn f (nI i) (nI (frN g - 1)) (g 4))]) rfl ?_
  refine lv_istore (lv' := [(4, .int (hOn f (nI i) (nI (frN g - 1)) (g 4))), (3, .int (nI (frN g))), (2, .int (nI (g 0))), (0, .ref (A 0)), (1, .int (nI i))]) hx hb dL_isAmended_33 hl (by decide) rfl (fun ls hl => ?_)
  refine lv_aload_n hx hb dL_isAmended_35 rfl (lv_at hl 3 rfl) ?_
  refine lv_iload_n hx hb dL_isAmended_36 rfl (lv_at hl 4 rfl) ?_
  refine pw_V (As := [.int (nI i)]) (rest := []) (v := some (.int (amH f g (nI i)))) S hA hG hS0 hDA (c_X7_amend l G hlf A f g H hR hA (nI i) hg0) (kOr_nn (k_ix hi (by omega)) (if_neg (fun z => z.elim (fun y => absurd y (nI_ge (b := 20) hl4 (by decide))) (fun y => absurd y (lp_n399 hF.2))))) gL_isAmended_X7_amend rfl ⟨rfl, rfl⟩ np_amend ⟨Nat.le_of_ble_eq_true rfl, Nat.le_of_ble_eq_true rfl⟩ (rd_rcv hG.1 (rP_0 hR) rfl) rfl hl.1 rfl (Nat.le_of_ble_eq_true rfl) ⟨Nat.le_of_ble_eq_true rfl, Nat.le_of_ble_eq_true rfl⟩ dL_isAmended_37 (fun H1 locs1 hR1 hS1 hG1 => ?_)
  refine W.eq (g2 := F0 mZ 40 ls [.int (amH f g (nI i))]) rfl ?_
  have k86 : ∀ (ls : Array Slot), lv_has ls 8 [(6, .int (fl (min 28 (400 - frN g)) (fun j h => imax h (lH f g (nI i) (nI (frN g + j)) (-1))) 0)), (5, .int (amH f g (nI i))), (4, .int (hOn f (nI i) (nI (frN g - 1)) (g 4))), (3, .int (nI (frN g))), (0, .ref (A 0)), (1, .int (nI i))] → W pZ l eZ { frames := 10, cells := 3, slots := 18, locals := 200 } sZ mZ ([.ref (A 0), .int (nI i)] : List Value).toArray bZ meZ cZ H1 locs1 1 6 (pw_Q bZ G A H [.ref (A 0), .int (nI i)] sZ (kpt g)) (F0 mZ 86 ls []) := by
    intro ls hl
    refine lv_iload hx hb dL_isAmended_86 (lv_at hl 1 rfl) ?_
    refine lv_iload hx hb dL_isAmended_88 (lv_at hl 0 rfl) ?_
    refine lv_icmp_ne (tgt := 134) hx hb dL_isAmended_90 (by decide) (fun c => absurd rfl c) (fun _ => ?_)
    refine lv_aload_n hx hb dL_isAmended_93 rfl (lv_at hl 4 rfl) ?_
    refine lv_iload_n hx hb dL_isAmended_94 rfl (lv_at hl 5 rfl) ?_
    refine lv_iload_n hx hb dL_isAmended_95 rfl (lv_at hl 3 rfl) ?_
    refine pr_V (As := [.int (nI i), .int (nI (frN g))]) (rest := []) (v := some (.int (hOn (amAdd f g (nI i) (nI (frN g)) (amH f g (nI i))) (nI i) (nI (frN g)) (gset g 4 (g 4 + 1) 4)))) S hG1 (c_X7_chart l G hlf A (amAdd f g (nI i) (nI (frN g)) (amH f g (nI i))) (gset g 4 (g 4 + 1)) H1 hR1 (nI i) (nI (frN g))) (kOr_nn (k_ix (n := gset g 4 (g 4 + 1) 3) hi (by show g 3 < 65536; omega)) (k_day (by omega))) gL_isAmended_X7_chart rfl ⟨rfl, rfl⟩ np_chart ⟨Nat.le_of_ble_eq_true rfl, Nat.le_of_ble_eq_true rfl⟩ (rd_rcv hG1.1 (rP_0 hR1) rfl) rfl hl.1 rfl (Nat.le_of_ble_eq_true rfl) ⟨Nat.le_of_ble_eq_true rfl, Nat.le_of_ble_eq_true rfl⟩ dL_isAmended_96 ?_
    refine W.eq (g2 := F0 mZ 99 ls [.int (hOn (amAdd f g (nI i) (nI (frN g)) (amH f g (nI i))) (nI i) (nI (frN g)) (gset g 4 (g 4 + 1) 4))]) rfl ?_
    rw [am_on hl4 (by omega) (Nat.le_refl _)]
    refine lv_iload hx hb dL_isAmended_99 (lv_at hl 1 rfl) ?_
    refine lv_icmp_ne (tgt := 134) hx hb dL_isAmended_101 (by decide) (fun c => absurd rfl c) (fun _ => ?_)
    refine lv_aload_n hx hb dL_isAmended_104 rfl (lv_at hl 4 rfl) ?_
    refine lv_iload_n hx hb dL_isAmended_105 rfl (lv_at hl 5 rfl) ?_
    refine lv_sipush (v := nI 399) hx hb dL_isAmended_106 (by decide) ?_
    refine pr_V (As := [.int (nI i), .int (nI 399)]) (rest := []) (v := some (.int (hOn (amAdd f g (nI i) (nI (frN g)) (amH f g (nI i))) (nI i) (nI 399) (gset g 4 (g 4 + 1) 4)))) S hG1 (c_X7_chart l G hlf A (amAdd f g (nI i) (nI (frN g)) (amH f g (nI i))) (gset g 4 (g 4 + 1)) H1 hR1 (nI i) (nI 399)) (kOr_nn (k_ix (n := gset g 4 (g 4 + 1) 3) hi (by show g 3 < 65536; omega)) (k_day (by omega))) gL_isAmended_X7_chart rfl ⟨rfl, rfl⟩ np_chart ⟨Nat.le_of_ble_eq_true rfl, Nat.le_of_ble_eq_true rfl⟩ (rd_rcv hG1.1 (rP_0 hR1) rfl) rfl hl.1 rfl (Nat.le_of_ble_eq_true rfl) ⟨Nat.le_of_ble_eq_true rfl, Nat.le_of_ble_eq_true rfl⟩ dL_isAmended_109 ?_
    refine W.eq (g2 := F0 mZ 112 ls [.int (hOn (amAdd f g (nI i) (nI (frN g)) (amH f g (nI i))) (nI i) (nI 399) (gset g 4 (g 4 + 1) 4))]) rfl ?_
    rw [am_on hl4 (by omega) hF.2]
    refine lv_iload hx hb dL_isAmended_112 (lv_at hl 1 rfl) ?_
    refine lv_icmp_ne (tgt := 134) hx hb dL_isAmended_114 (by decide) (fun c => absurd rfl c) (fun _ => ?_)
    refine lv_aload_n hx hb dL_isAmended_117 rfl (lv_at hl 4 rfl) ?_
    refine lv_iload_n hx hb dL_isAmended_118 rfl (lv_at hl 5 rfl) ?_
    refine lv_iload_n hx hb dL_isAmended_119 rfl (lv_at hl 3 rfl) ?_
    refine lv_iconst (v := nI 1) hx hb dL_isAmended_120 (by decide) ?_
    refine lv_isub hx hb dL_isAmended_121 ?_
    rw [pk_sub (a := frN g) (b := 1) (by omega)]
    refine pr_V (As := [.int (nI i), .int (nI (frN g - 1))]) (rest := []) (v := some (.int (hOn (amAdd f g (nI i) (nI (frN g)) (amH f g (nI i))) (nI i) (nI (frN g - 1)) (gset g 4 (g 4 + 1) 4)))) S hG1 (c_X7_chart l G hlf A (amAdd f g (nI i) (nI (frN g)) (amH f g (nI i))) (gset g 4 (g 4 + 1)) H1 hR1 (nI i) (nI (frN g - 1))) (kOr_nn (k_ix (n := gset g 4 (g 4 + 1) 3) hi (by show g 3 < 65536; omega)) (k_day (by omega))) gL_isAmended_X7_chart rfl ⟨rfl, rfl⟩ np_chart ⟨Nat.le_of_ble_eq_true rfl, Nat.le_of_ble_eq_true rfl⟩ (rd_rcv hG1.1 (rP_0 hR1) rfl) rfl hl.1 rfl (Nat.le_of_ble_eq_true rfl) ⟨Nat.le_of_ble_eq_true rfl, Nat.le_of_ble_eq_true rfl⟩ dL_isAmended_122 ?_
    refine W.eq (g2 := F0 mZ 125 ls [.int (hOn (amAdd f g (nI i) (nI (frN g)) (amH f g (nI i))) (nI i) (nI (frN g - 1)) (gset g 4 (g 4 + 1) 4))]) rfl ?_
    rw [am_off hl4 (by omega) (by omega)]
    refine lv_iload hx hb dL_isAmended_125 (lv_at hl 2 rfl) ?_
    refine lv_icmp_ne (tgt := 134) hx hb dL_isAmended_127 (by decide) (fun c => absurd rfl c) (fun _ => ?_)
    refine lv_iconst (v := nI 1) hx hb dL_isAmended_130 (by decide) ?_
    refine lv_goto (tgt := 135) hx hb dL_isAmended_131 (by decide) ?_
    exact pw_zret S hr hlk hS1 hR1 ⟨iv_amend h hi hl4 (by rw [q3, znI (by omega)]; omega), rfl, rfl, rfl⟩ ⟨by decide, by decide⟩ dL_isAmended_135 rfl
  refine lv_istore (lv' := [(5, .int (amH f g (nI i))), (4, .int (hOn f (nI i) (nI (frN g - 1)) (g 4))), (3, .int (nI (frN g))), (2, .int (nI (g 0))), (0, .ref (A 0)), (1, .int (nI i))]) hx hb dL_isAmended_40 hl (by decide) rfl (fun ls hl => ?_)
  refine lv_iconst (v := nI 0) hx hb dL_isAmended_42 (by decide) ?_
  refine lv_istore (lv' := [(6, .int (nI 0)), (5, .int (amH f g (nI i))), (4, .int (hOn f (nI i) (nI (frN g - 1)) (g 4))), (3, .int (nI (frN g))), (2, .int (nI (g 0))), (0, .ref (A 0)), (1, .int (nI i))]) hx hb dL_isAmended_43 hl (by decide) rfl (fun ls hl => ?_)
  refine lv_iload_n hx hb dL_isAmended_45 rfl (lv_at hl 3 rfl) ?_
  refine lv_istore (lv' := [(7, .int (nI (frN g))), (6, .int (nI 0)), (5, .int (amH f g (nI i))), (4, .int (hOn f (nI i) (nI (frN g - 1)) (g 4))), (3, .int (nI (frN g))), (2, .int (nI (g 0))), (0, .ref (A 0)), (1, .int (nI i))]) hx hb dL_isAmended_46 hl (by decide) rfl (fun ls hl => ?_)
  have loop48 : ∀ (n k : Nat), k + n = min 28 (400 - frN g) → ∀ (ls : Array Slot), lv_has ls 8 [(7, .int (nI (frN g + k))), (6, .int (fl k (fun j h => imax h (lH f g (nI i) (nI (frN g + j)) (-1))) 0)), (5, .int (amH f g (nI i))), (4, .int (hOn f (nI i) (nI (frN g - 1)) (g 4))), (3, .int (nI (frN g))), (0, .ref (A 0)), (1, .int (nI i))] → W pZ l eZ { frames := 10, cells := 3, slots := 18, locals := 200 } sZ mZ ([.ref (A 0), .int (nI i)] : List Value).toArray bZ meZ cZ H1 locs1 1 6 (pw_Q bZ G A H [.ref (A 0), .int (nI i)] sZ (kpt g)) (F0 mZ 48 ls []) := by
    intro n
    induction n with
    | zero =>
      intro k hk ls hl
      have e9 : k = min 28 (400 - frN g) := by omega
      subst e9
      refine lv_iload hx hb dL_isAmended_48 (lv_at hl 0 rfl) ?_
      refine lv_iload_n hx hb dL_isAmended_50 rfl (lv_at hl 4 rfl) ?_
      refine lv_bipush (v := nI 28) hx hb dL_isAmended_51 (by decide) ?_
      refine lv_iadd hx hb dL_isAmended_53 ?_
      rw [nI_add (frN g) 28]
      by_cases hc : 28 ≤ 400 - frN g
      · refine lv_icmp_ge (tgt := 86) hx hb dL_isAmended_54 (by decide) (fun _ => ?_) (fun c => absurd (nI_le (by omega) (by omega)) c)
        exact k86 ls (lv_sub hl [1, 2, 3, 4, 5, 6] rfl)
      · refine lv_icmp_ge (tgt := 86) hx hb dL_isAmended_54 (by decide) (fun c => absurd c (nI_ge (by omega) (by omega))) (fun _ => ?_)
        refine lv_iload hx hb dL_isAmended_57 (lv_at hl 0 rfl) ?_
        refine lv_sipush (v := nI 400) hx hb dL_isAmended_59 (by decide) ?_
        refine lv_icmp_ge (tgt := 86) hx hb dL_isAmended_62 (by decide) (fun _ => ?_) (fun c => absurd (nI_le (by omega) (by omega)) c)
        exact k86 ls (lv_sub hl [1, 2, 3, 4, 5, 6] rfl)
    | succ n ih =>
      intro k hk ls hl
      refine lv_iload hx hb dL_isAmended_48 (lv_at hl 0 rfl) ?_
      refine lv_iload_n hx hb dL_isAmended_50 rfl (lv_at hl 4 rfl) ?_
      refine lv_bipush (v := nI 28) hx hb dL_isAmended_51 (by decide) ?_
      refine lv_iadd hx hb dL_isAmended_53 ?_
      rw [nI_add (frN g) 28]
      refine lv_icmp_ge (tgt := 86) hx hb dL_isAmended_54 (by decide) (fun c => absurd c (nI_ge (by omega) (by omega))) (fun _ => ?_)
      refine lv_iload hx hb dL_isAmended_57 (lv_at hl 0 rfl) ?_
      refine lv_sipush (v := nI 400) hx hb dL_isAmended_59 (by decide) ?_
      refine lv_icmp_ge (tgt := 86) hx hb dL_isAmended_62 (by decide) (fun c => absurd c (nI_ge (by omega) (by omega))) (fun _ => ?_)
      refine lv_iload hx hb dL_isAmended_65 (lv_at hl 1 rfl) ?_
      refine lv_aload_n hx hb dL_isAmended_67 rfl (lv_at hl 5 rfl) ?_
      refine lv_iload_n hx hb dL_isAmended_68 rfl (lv_at hl 6 rfl) ?_
      refine lv_iload hx hb dL_isAmended_69 (lv_at hl 0 rfl) ?_
      refine lv_iconst (v := nI 0) hx hb dL_isAmended_71 (by decide) ?_
      refine pr_V (As := [.int (nI i), .int (nI (frN g + k)), .int (nI 0)]) (rest := [.int (fl k (fun j h => imax h (lH f g (nI i) (nI (frN g + j)) (-1))) 0)]) (v := some (.int (lH (amAdd f g (nI i) (nI (frN g)) (amH f g (nI i))) (gset g 4 (g 4 + 1)) (nI i) (nI (frN g + k)) (-1) + 10 * nI 0))) S hG1 (c_X7_demanded l G hlf A (amAdd f g (nI i) (nI (frN g)) (amH f g (nI i))) (gset g 4 (g 4 + 1)) H1 hR1 (nI i) (nI (frN g + k)) (nI 0)) (kOr_nn (k_ix (n := gset g 4 (g 4 + 1) 3) hi (by show g 3 < 65536; omega)) (kOr_nn (k_day (by omega)) (by decide))) gL_isAmended_X7_demanded rfl ⟨rfl, rfl⟩ np_demanded ⟨Nat.le_of_ble_eq_true rfl, Nat.le_of_ble_eq_true rfl⟩ (rd_rcv hG1.1 (rP_0 hR1) rfl) rfl hl.1 rfl (Nat.le_of_ble_eq_true rfl) ⟨Nat.le_of_ble_eq_true rfl, Nat.le_of_ble_eq_true rfl⟩ dL_isAmended_72 ?_
      refine W.eq (g2 := F0 mZ 75 ls [.int (lH (amAdd f g (nI i) (nI (frN g)) (amH f g (nI i))) (gset g 4 (g 4 + 1)) (nI i) (nI (frN g + k)) (-1) + 10 * nI 0), .int (fl k (fun j h => imax h (lH f g (nI i) (nI (frN g + j)) (-1))) 0)]) rfl ?_
      rw [am_lH, ad_0]
      refine rd_max S hl.1 (by decide +kernel) ⟨Nat.le_of_ble_eq_true rfl, Nat.le_of_ble_eq_true rfl⟩ (Nat.le_of_ble_eq_true rfl) ⟨Nat.le_of_ble_eq_true rfl, Nat.le_of_ble_eq_true rfl⟩ dL_isAmended_75 ?_
      refine W.eq (g2 := F0 mZ 78 ls [.int (fl (k + 1) (fun j h => imax h (lH f g (nI i) (nI (frN g + j)) (-1))) 0)]) rfl ?_
      refine lv_istore (lv' := [(6, .int (fl (k + 1) (fun j h => imax h (lH f g (nI i) (nI (frN g + j)) (-1))) 0)), (7, .int (nI (frN g + k))), (5, .int (amH f g (nI i))), (4, .int (hOn f (nI i) (nI (frN g - 1)) (g 4))), (3, .int (nI (frN g))), (0, .ref (A 0)), (1, .int (nI i))]) hx hb dL_isAmended_78 hl (by decide) rfl (fun ls hl => ?_)
      refine lv_iinc (v := nI (frN g + k + 1)) (lv' := [(7, .int (nI (frN g + k + 1))), (6, .int (fl (k + 1) (fun j h => imax h (lH f g (nI i) (nI (frN g + j)) (-1))) 0)), (5, .int (amH f g (nI i))), (4, .int (hOn f (nI i) (nI (frN g - 1)) (g 4))), (3, .int (nI (frN g))), (0, .ref (A 0)), (1, .int (nI i))]) hx hb dL_isAmended_80 hl (k := 1) rfl (nI_inc _) (by decide) rfl (fun ls hl => ?_)
      refine lv_goto (tgt := 48) hx hb dL_isAmended_83 (by decide) ?_
      exact ih (k + 1) (by omega) ls (lv_sub hl [0, 1, 2, 3, 4, 5, 6] rfl)
  exact loop48 (min 28 (400 - frN g)) 0 (by omega) ls (lv_sub hl [0, 1, 2, 3, 4, 6, 7] rfl)
