set_option maxHeartbeats 4000000 in
set_option maxRecDepth 100000 in
theorem c_L_isFlown (l : Launch) (G : GT) (hlf : l.stackTraces = false) (A : Nat → Nat) (f : Nat → Nat → Int32) (g : Nat → Nat) (H : Heap) (hR : RP G A f g H) (hA : RA G A) (h : IV f g) (c : Nat) (hc : c < 4) : PwV l G A H yL_isFlown wsL_isFlown { frames := 10, cells := 3, slots := 18, locals := 200 } [.ref (A 0), .int (nI (g 3)), .int (nI c)] (kpt g) := by
  refine pw_of (cc := cL_isFlown) (maxL := 11) (ret := (some .boolean)) (by decide) rfl (Nat.le_of_ble_eq_true rfl) ?_
  intro pZ eZ sZ mZ bZ meZ cZ ls S hr hlk hl hHs hG
  have S : CallFix pZ mZ cZ cL_isFlown 11 sZ _ wsL_isFlown RL := S
  have hx := S.1
  have hb := S.2.1
  have hown := S.2.2.2.1
  have hts := S.2.2.2.2
  have hl : lv_has ls 11 [(0, .ref (A 0)), (1, .int (nI (g 3))), (2, .int (nI c))] := hl
  have hg0 := h.1.1.1
  have hg1 := h.1.1.2.1
  have hg3 := h.1.1.2.2.1
  have hg4 := h.1.1.2.2.2.1
  have hg5 := h.1.1.2.2.2.2.1
  have hg7 := h.1.1.2.2.2.2.2
  have hDA : ∀ k, rD k → DAr A (A k) := fun k hk => ⟨k, hk, rfl⟩
  have hS0 : va_S (DAr A) H H [] := va_S.rf
  refine lv_aload_n hx hb dL_isFlown_0 rfl (lv_at hl 0 rfl) ?_
  refine lv_iconst (v := nI 1) hx hb dL_isFlown_1 (by decide) ?_
  refine pr_V (As := [.int (nI 1)]) (rest := []) (v := some (.int (mny f g (nI 1)))) S hG (c_X7_many l G hlf A f g H hR (nI 1)) (k_man (by decide)) gL_isFlown_X7_many rfl ⟨rfl, rfl⟩ np_many ⟨Nat.le_of_ble_eq_true rfl, Nat.le_of_ble_eq_true rfl⟩ (rd_rcv hG.1 (rP_0 hR) rfl) rfl hl.1 rfl (Nat.le_of_ble_eq_true rfl) ⟨Nat.le_of_ble_eq_true rfl, Nat.le_of_ble_eq_true rfl⟩ dL_isFlown_2 ?_
  refine W.eq (g2 := F0 mZ 5 ls [.int (mny f g (nI 1))]) rfl ?_
  rw [my_1]
  refine lv_istore_n (lv' := [(3, .int (nI (g 0))), (0, .ref (A 0)), (1, .int (nI (g 3))), (2, .int (nI c))]) hx hb dL_isFlown_5 rfl hl (by decide) rfl (fun ls hl => ?_)
  refine lv_aload_n hx hb dL_isFlown_6 rfl (lv_at hl 1 rfl) ?_
  refine lv_iconst (v := nI 4) hx hb dL_isFlown_7 (by decide) ?_
  refine pr_V (As := [.int (nI 4)]) (rest := []) (v := some (.int (mny f g (nI 4)))) S hG (c_X7_many l G hlf A f g H hR (nI 4)) (k_man (by decide)) gL_isFlown_X7_many rfl ⟨rfl, rfl⟩ np_many ⟨Nat.le_of_ble_eq_true rfl, Nat.le_of_ble_eq_true rfl⟩ (rd_rcv hG.1 (rP_0 hR) rfl) rfl hl.1 rfl (Nat.le_of_ble_eq_true rfl) ⟨Nat.le_of_ble_eq_true rfl, Nat.le_of_ble_eq_true rfl⟩ dL_isFlown_8 ?_
  refine W.eq (g2 := F0 mZ 11 ls [.int (mny f g (nI 4))]) rfl ?_
  rw [my_4]
  refine lv_aload_n hx hb dL_isFlown_11 rfl (lv_at hl 1 rfl) ?_
  refine lv_bipush (v := nI 16) hx hb dL_isFlown_12 (by decide) ?_
  refine lv_iload_n hx hb dL_isFlown_14 rfl (lv_at hl 3 rfl) ?_
  refine lv_iadd hx hb dL_isFlown_15 ?_
  rw [nI_add 16 c]
  refine pr_V (As := [.int (nI (16 + c))]) (rest := [.int (nI (g 5))]) (v := some (.int (mny f g (nI (16 + c))))) S hG (c_X7_many l G hlf A f g H hR (nI (16 + c))) (k_man (by omega)) gL_isFlown_X7_many rfl ⟨rfl, rfl⟩ np_many ⟨Nat.le_of_ble_eq_true rfl, Nat.le_of_ble_eq_true rfl⟩ (rd_rcv hG.1 (rP_0 hR) rfl) rfl hl.1 rfl (Nat.le_of_ble_eq_true rfl) ⟨Nat.le_of_ble_eq_true rfl, Nat.le_of_ble_eq_true rfl⟩ dL_isFlown_16 ?_
  refine W.eq (g2 := F0 mZ 19 ls [.int (mny f g (nI (16 + c))), .int (nI (g 5))]) rfl ?_
  rw [my_16 c hc]
  refine lv_isub hx hb dL_isFlown_19 ?_
  refine lv_istore (lv' := [(4, .int ((nI (g 5)) - (f 29 c))), (3, .int (nI (g 0))), (0, .ref (A 0)), (1, .int (nI (g 3))), (2, .int (nI c))]) hx hb dL_isFlown_20 hl (by decide) rfl (fun ls hl => ?_)
  refine lv_aload_n hx hb dL_isFlown_22 rfl (lv_at hl 2 rfl) ?_
  refine lv_bipush (v := nI 12) hx hb dL_isFlown_23 (by decide) ?_
  refine lv_iload_n hx hb dL_isFlown_25 rfl (lv_at hl 4 rfl) ?_
  refine lv_iadd hx hb dL_isFlown_26 ?_
  rw [nI_add 12 c]
  refine pr_V (As := [.int (nI (12 + c))]) (rest := []) (v := some (.int (mny f g (nI (12 + c))))) S hG (c_X7_many l G hlf A f g H hR (nI (12 + c))) (k_man (by omega)) gL_isFlown_X7_many rfl ⟨rfl, rfl⟩ np_many ⟨Nat.le_of_ble_eq_true rfl, Nat.le_of_ble_eq_true rfl⟩ (rd_rcv hG.1 (rP_0 hR) rfl) rfl hl.1 rfl (Nat.le_of_ble_eq_true rfl) ⟨Nat.le_of_ble_eq_true rfl, Nat.le_of_ble_eq_true rfl⟩ dL_isFlown_27 ?_
  refine W.eq (g2 := F0 mZ 30 ls [.int (mny f g (nI (12 + c)))]) rfl ?_
  rw [my_12 c hc]
  refine lv_istore (lv' := [(5, .int (f 28 c)), (4, .int ((nI (g 5)) - (f 29 c))), (3, .int (nI (g 0))), (0, .ref (A 0)), (1, .int (nI (g 3))), (2, .int (nI c))]) hx hb dL_isFlown_30 hl (by decide) rfl (fun ls hl => ?_)
  refine lv_aload_n hx hb dL_isFlown_32 rfl (lv_at hl 3 rfl) ?_
  refine lv_iload_n hx hb dL_isFlown_33 rfl (lv_at hl 5 rfl) ?_
  refine pw_V (As := [.int (nI c)]) (rest := []) (v := some (.int (rowAt 4 (f 28) (nI c)))) S hA hG hS0 hDA (c_X7_load l G hlf A f g H hR hA (nI c)) (k_ix hc (by decide)) gL_isFlown_X7_load rfl ⟨rfl, rfl⟩ np_load ⟨Nat.le_of_ble_eq_true rfl, Nat.le_of_ble_eq_true rfl⟩ (rd_rcv hG.1 (rP_0 hR) rfl) rfl hl.1 rfl (Nat.le_of_ble_eq_true rfl) ⟨Nat.le_of_ble_eq_true rfl, Nat.le_of_ble_eq_true rfl⟩ dL_isFlown_34 (fun H1 locs1 hR1 hS1 hG1 => ?_)
  refine W.eq (g2 := F0 mZ 37 ls [.int (rowAt 4 (f 28) (nI c))]) rfl ?_
  rw [rowPut_fS (k := 28) (show c < rl 28 from hc)] at hR1
  rw [rowAt_in hc (by decide)]
  refine lv_iload hx hb dL_isFlown_37 (lv_at hl 0 rfl) ?_
  refine lv_icmp_ne (tgt := 80) hx hb dL_isFlown_39 (by decide) (fun c => absurd rfl c) (fun _ => ?_)
  refine lv_aload_n hx hb dL_isFlown_42 rfl (lv_at hl 3 rfl) ?_
  refine lv_iload_n hx hb dL_isFlown_43 rfl (lv_at hl 5 rfl) ?_
  refine pw_V (As := [.int (nI c)]) (rest := []) (v := some (.int (nI (g 5) - rowAt 4 (fS f 28 c (nI (g 0)) 29) (nI c)))) S hA hG1 hS1 hDA (c_X7_read l G hlf A (fS f 28 c (nI (g 0))) g H1 hR1 hA (nI c)) (k_ix hc (by decide)) gL_isFlown_X7_read rfl ⟨rfl, rfl⟩ np_read ⟨Nat.le_of_ble_eq_true rfl, Nat.le_of_ble_eq_true rfl⟩ (rd_rcv hG1.1 (rP_0 hR1) rfl) rfl hl.1 rfl (Nat.le_of_ble_eq_true rfl) ⟨Nat.le_of_ble_eq_true rfl, Nat.le_of_ble_eq_true rfl⟩ dL_isFlown_44 (fun H2 locs2 hR2 hS2 hG2 => ?_)
  refine W.eq (g2 := F0 mZ 47 ls [.int (nI (g 5) - rowAt 4 (fS f 28 c (nI (g 0)) 29) (nI c))]) rfl ?_
  rw [rowPut_fS (k := 29) (show c < rl 29 from hc)] at hR2
  rw [rowAt_in hc (by decide), fS_ne (by decide)]
  have hIV : IV (fS (fS f 28 c (nI (g 0))) 29 c (nI (g 5))) g := iv_read (iv_fS h (Or.inr rfl)) hc
  have e28 : (fS (fS f 28 c (nI (g 0))) 29 c (nI (g 5))) 28 c = nI (g 0) := by rw [fS_ne (by decide), fS_i]
  have e29 : (fS (fS f 28 c (nI (g 0))) 29 c (nI (g 5))) 29 c = nI (g 5) := fS_i
  generalize fS (fS f 28 c (nI (g 0))) 29 c (nI (g 5)) = F2 at hR2 hIV e28 e29
  refine lv_iload hx hb dL_isFlown_47 (lv_at hl 1 rfl) ?_
  refine lv_icmp_ne (tgt := 80) hx hb dL_isFlown_49 (by decide) (fun c => absurd rfl c) (fun _ => ?_)
  refine lv_aload_n hx hb dL_isFlown_52 rfl (lv_at hl 3 rfl) ?_
  refine lv_bipush (v := nI 12) hx hb dL_isFlown_53 (by decide) ?_
  refine lv_iload_n hx hb dL_isFlown_55 rfl (lv_at hl 5 rfl) ?_
  refine lv_iadd hx hb dL_isFlown_56 ?_
  rw [nI_add 12 c]
  refine pr_V (As := [.int (nI (12 + c))]) (rest := []) (v := some (.int (mny F2 g (nI (12 + c))))) S hG2 (c_X7_many l G hlf A F2 g H2 hR2 (nI (12 + c))) (k_man (by omega)) gL_isFlown_X7_many rfl ⟨rfl, rfl⟩ np_many ⟨Nat.le_of_ble_eq_true rfl, Nat.le_of_ble_eq_true rfl⟩ (rd_rcv hG2.1 (rP_0 hR2) rfl) rfl hl.1 rfl (Nat.le_of_ble_eq_true rfl) ⟨Nat.le_of_ble_eq_true rfl, Nat.le_of_ble_eq_true rfl⟩ dL_isFlown_57 ?_
  refine W.eq (g2 := F0 mZ 60 ls [.int (mny F2 g (nI (12 + c)))]) rfl ?_
  rw [my_12 c hc, e28]
  refine lv_iload_n hx hb dL_isFlown_60 rfl (lv_at hl 2 rfl) ?_
  refine lv_icmp_ne (tgt := 80) hx hb dL_isFlown_61 (by decide) (fun c => absurd rfl c) (fun _ => ?_)
  refine lv_aload_n hx hb dL_isFlown_64 rfl (lv_at hl 3 rfl) ?_
  refine lv_bipush (v := nI 16) hx hb dL_isFlown_65 (by decide) ?_
  refine lv_iload_n hx hb dL_isFlown_67 rfl (lv_at hl 5 rfl) ?_
  refine lv_iadd hx hb dL_isFlown_68 ?_
  rw [nI_add 16 c]
  refine pr_V (As := [.int (nI (16 + c))]) (rest := []) (v := some (.int (mny F2 g (nI (16 + c))))) S hG2 (c_X7_many l G hlf A F2 g H2 hR2 (nI (16 + c))) (k_man (by omega)) gL_isFlown_X7_many rfl ⟨rfl, rfl⟩ np_many ⟨Nat.le_of_ble_eq_true rfl, Nat.le_of_ble_eq_true rfl⟩ (rd_rcv hG2.1 (rP_0 hR2) rfl) rfl hl.1 rfl (Nat.le_of_ble_eq_true rfl) ⟨Nat.le_of_ble_eq_true rfl, Nat.le_of_ble_eq_true rfl⟩ dL_isFlown_69 ?_
  refine W.eq (g2 := F0 mZ 72 ls [.int (mny F2 g (nI (16 + c)))]) rfl ?_
  rw [my_16 c hc, e29]
  refine lv_aload_n hx hb dL_isFlown_72 rfl (lv_at hl 3 rfl) ?_
  refine lv_iconst (v := nI 4) hx hb dL_isFlown_73 (by decide) ?_
  refine pr_V (As := [.int (nI 4)]) (rest := [.int (nI (g 5))]) (v := some (.int (mny F2 g (nI 4)))) S hG2 (c_X7_many l G hlf A F2 g H2 hR2 (nI 4)) (k_man (by decide)) gL_isFlown_X7_many rfl ⟨rfl, rfl⟩ np_many ⟨Nat.le_of_ble_eq_true rfl, Nat.le_of_ble_eq_true rfl⟩ (rd_rcv hG2.1 (rP_0 hR2) rfl) rfl hl.1 rfl (Nat.le_of_ble_eq_true rfl) ⟨Nat.le_of_ble_eq_true rfl, Nat.le_of_ble_eq_true rfl⟩ dL_isFlown_74 ?_
  refine W.eq (g2 := F0 mZ 77 ls [.int (mny F2 g (nI 4)), .int (nI (g 5))]) rfl ?_
  rw [my_4]
  refine lv_icmp_eq (tgt := 82) hx hb dL_isFlown_77 (by decide) (fun _ => ?_) (fun c => absurd rfl c)
  refine lv_aload_n hx hb dL_isFlown_82 rfl (lv_at hl 3 rfl) ?_
  refine lv_iload_n hx hb dL_isFlown_83 rfl (lv_at hl 5 rfl) ?_
  refine pr_V (As := [.int (nI c)]) (rest := []) (v := some (.int (mis F2 g (nI c)))) S hG2 (c_X7_misled l G hlf A F2 g H2 hR2 (nI c)) (k_ix hc (by decide)) gL_isFlown_X7_misled rfl ⟨rfl, rfl⟩ np_misled ⟨Nat.le_of_ble_eq_true rfl, Nat.le_of_ble_eq_true rfl⟩ (rd_rcv hG2.1 (rP_0 hR2) rfl) rfl hl.1 rfl (Nat.le_of_ble_eq_true rfl) ⟨Nat.le_of_ble_eq_true rfl, Nat.le_of_ble_eq_true rfl⟩ dL_isFlown_84 ?_
  refine W.eq (g2 := F0 mZ 87 ls [.int (mis F2 g (nI c))]) rfl ?_
  rw [mis_mk]
  refine lv_istore (lv' := [(6, .int (mk4 (g 3) (mbF F2 g (nI c)))), (5, .int (f 28 c)), (4, .int ((nI (g 5)) - (f 29 c))), (3, .int (nI (g 0))), (0, .ref (A 0)), (1, .int (nI (g 3))), (2, .int (nI c))]) hx hb dL_isFlown_87 hl (by decide) rfl (fun ls hl => ?_)
  refine lv_iconst (v := nI 0) hx hb dL_isFlown_89 (by decide) ?_
  refine lv_istore (lv' := [(7, .int (nI 0)), (6, .int (mk4 (g 3) (mbF F2 g (nI c)))), (5, .int (f 28 c)), (4, .int ((nI (g 5)) - (f 29 c))), (3, .int (nI (g 0))), (0, .ref (A 0)), (1, .int (nI (g 3))), (2, .int (nI c))]) hx hb dL_isFlown_90 hl (by decide) rfl (fun ls hl => ?_)
  have loop92 : ∀ (n k : Nat), k + n = g 3 → ∀ (ls : Array Slot), lv_has ls 11 [(7, .int (nI k)), (6, .int (mk4 (g 3) (mbF F2 g (nI c)))), (0, .ref (A 0)), (1, .int (nI (g 3))), (2, .int (nI c)), (3, .int (nI (g 0)))] → W pZ l eZ { frames := 10, cells := 3, slots := 18, locals := 200 } sZ mZ ([.ref (A 0), .int (nI (g 3)), .int (nI c)] : List Value).toArray bZ meZ cZ H2 locs2 2 12 (pw_Q bZ G A H [.ref (A 0), .int (nI (g 3)), .int (nI c)] sZ (kpt g)) (F0 mZ 92 ls []) := by
    intro n
    induction n with
    | zero =>
      intro k hk ls hl
      have e9 : k = g 3 := by omega
      subst e9
      refine lv_iload hx hb dL_isFlown_92 (lv_at hl 0 rfl) ?_
      refine lv_iload_n hx hb dL_isFlown_94 rfl (lv_at hl 3 rfl) ?_
      refine lv_icmp_ge (tgt := 184) hx hb dL_isFlown_95 (by decide) (fun _ => ?_) (fun c => absurd (Int32.le_refl _) c)
      refine lv_iconst (v := nI 1) hx hb dL_isFlown_184 (by decide) ?_
      exact pw_zret S hr hlk hS2 hR2 ⟨hIV, rfl, rfl, rfl⟩ ⟨by decide, by decide⟩ dL_isFlown_185 rfl
    | succ n ih =>
      intro k hk ls hl
      have hkl : k < g 3 := by omega
      have ih9 := ih
      refine lv_iload hx hb dL_isFlown_92 (lv_at hl 0 rfl) ?_
      refine lv_iload_n hx hb dL_isFlown_94 rfl (lv_at hl 3 rfl) ?_
      refine lv_icmp_ge (tgt := 184) hx hb dL_isFlown_95 (by decide) (fun c => absurd c (nI_ge hkl (by omega))) (fun _ => ?_)
      refine lv_iconst (v := nI 0) hx hb dL_isFlown_98 (by decide) ?_
      refine lv_istore (lv' := [(8, .int (nI 0)), (7, .int (nI k)), (6, .int (mk4 (g 3) (mbF F2 g (nI c)))), (0, .ref (A 0)), (1, .int (nI (g 3))), (2, .int (nI c)), (3, .int (nI (g 0)))]) hx hb dL_isFlown_99 hl (by decide) rfl (fun ls hl => ?_)
      have loop101 : ∀ (n ca : Nat), ca + n = 4 → ∀ (ls : Array Slot), lv_has ls 11 [(8, .int (nI ca)), (7, .int (nI k)), (6, .int (mk4 (g 3) (mbF F2 g (nI c)))), (0, .ref (A 0)), (1, .int (nI (g 3))), (2, .int (nI c)), (3, .int (nI (g 0)))] → W pZ l eZ { frames := 10, cells := 3, slots := 18, locals := 200 } sZ mZ ([.ref (A 0), .int (nI (g 3)), .int (nI c)] : List Value).toArray bZ meZ cZ H2 locs2 2 12 (pw_Q bZ G A H [.ref (A 0), .int (nI (g 3)), .int (nI c)] sZ (kpt g)) (F0 mZ 101 ls []) := by
        intro n
        induction n with
        | zero =>
          intro ca hk ls hl
          have e9 : ca = 4 := by omega
          subst e9
          refine lv_iload hx hb dL_isFlown_101 (lv_at hl 0 rfl) ?_
          refine lv_iconst (v := nI 4) hx hb dL_isFlown_103 (by decide) ?_
          refine lv_icmp_ge (tgt := 178) hx hb dL_isFlown_104 (by decide) (fun _ => ?_) (fun c => absurd (Int32.le_refl _) c)
          refine lv_iinc (v := nI (k + 1)) (lv' := [(7, .int (nI (k + 1))), (8, .int (nI 4)), (6, .int (mk4 (g 3) (mbF F2 g (nI c)))), (0, .ref (A 0)), (1, .int (nI (g 3))), (2, .int (nI c)), (3, .int (nI (g 0)))]) hx hb dL_isFlown_178 hl (k := 1) rfl (nI_inc _) (by decide) rfl (fun ls hl => ?_)
          refine lv_goto (tgt := 92) hx hb dL_isFlown_181 (by decide) ?_
          exact ih9 (k + 1) (by omega) ls (lv_sub hl [0, 2, 3, 4, 5, 6] rfl)
        | succ n ih =>
          intro ca hk ls hl
          rcases hI_c hIV (nI k) (nI (g 0)) with hn | ⟨ch, r, c1, c2, c3, c4, c5, c6, c7⟩
          · refine lv_iload hx hb dL_isFlown_101 (lv_at hl 0 rfl) ?_
            refine lv_iconst (v := nI 4) hx hb dL_isFlown_103 (by decide) ?_
            refine lv_icmp_ge (tgt := 178) hx hb dL_isFlown_104 (by decide) (fun c => absurd c (nI_ge (by omega) (by decide))) (fun _ => ?_)
            refine lv_aload_n hx hb dL_isFlown_107 rfl (lv_at hl 3 rfl) ?_
            refine lv_iload hx hb dL_isFlown_108 (lv_at hl 1 rfl) ?_
            refine lv_iload_n hx hb dL_isFlown_110 rfl (lv_at hl 6 rfl) ?_
            refine lv_iload hx hb dL_isFlown_111 (lv_at hl 0 rfl) ?_
            refine pr_V (As := [.int (nI k), .int (nI (g 0)), .int (nI ca)]) (rest := []) (v := some (.int (fCat (hIF F2 g (nI k) (nI (g 0))) (nI ca)))) S hG2 (c_X7_inForce l G hlf A F2 g H2 hR2 (nI k) (nI (g 0)) (nI ca)) (kOr_nn (k_ix hkl (by omega)) (kOr_nn (k_day hg0) (k_cat (by omega)))) gL_isFlown_X7_inForce rfl ⟨rfl, rfl⟩ np_inForce ⟨Nat.le_of_ble_eq_true rfl, Nat.le_of_ble_eq_true rfl⟩ (rd_rcv hG2.1 (rP_0 hR2) rfl) rfl hl.1 rfl (Nat.le_of_ble_eq_true rfl) ⟨Nat.le_of_ble_eq_true rfl, Nat.le_of_ble_eq_true rfl⟩ dL_isFlown_113 ?_
            refine W.eq (g2 := F0 mZ 116 ls [.int (fCat (hIF F2 g (nI k) (nI (g 0))) (nI ca))]) rfl ?_
            rw [hn, fc_n]
            refine lv_istore (lv' := [(9, .int (-1)), (8, .int (nI ca)), (7, .int (nI k)), (6, .int (mk4 (g 3) (mbF F2 g (nI c)))), (0, .ref (A 0)), (1, .int (nI (g 3))), (2, .int (nI c)), (3, .int (nI (g 0)))]) hx hb dL_isFlown_116 hl (by decide) rfl (fun ls hl => ?_)
            refine lv_aload_n hx hb dL_isFlown_118 rfl (lv_at hl 4 rfl) ?_
            refine lv_iload_n hx hb dL_isFlown_119 rfl (lv_at hl 6 rfl) ?_
            refine lv_iload hx hb dL_isFlown_120 (lv_at hl 2 rfl) ?_
            refine lv_iload_n hx hb dL_isFlown_122 rfl (lv_at hl 7 rfl) ?_
            refine lv_iload hx hb dL_isFlown_123 (lv_at hl 1 rfl) ?_
            refine pr_V (As := [.int (nI c), .int (nI k), .int (nI (g 0)), .int (nI ca)]) (rest := []) (v := some (.int (fCat (hBl F2 g (nI c) (nI k) (nI (g 0))) (nI ca)))) S hG2 (c_X7_believes l G hlf A F2 g H2 hR2 (nI c) (nI k) (nI (g 0)) (nI ca)) (kOr_nn (k_ix hc (by decide)) (kOr_nn (k_ix hkl (by omega)) (kOr_nn (ka_n (lo := g 0) (hi := 399) rfl rfl (Nat.le_refl _) hg0 (by decide)) (k_cat (by omega))))) gL_isFlown_X7_believes rfl ⟨rfl, rfl⟩ np_believes ⟨Nat.le_of_ble_eq_true rfl, Nat.le_of_ble_eq_true rfl⟩ (rd_rcv hG2.1 (rP_0 hR2) rfl) rfl hl.1 rfl (Nat.le_of_ble_eq_true rfl) ⟨Nat.le_of_ble_eq_true rfl, Nat.le_of_ble_eq_true rfl⟩ dL_isFlown_125 ?_
            refine W.eq (g2 := F0 mZ 128 ls [.int (fCat (hBl F2 g (nI c) (nI k) (nI (g 0))) (nI ca))]) rfl ?_
            refine lv_istore (lv' := [(10, .int (fCat (hBl F2 g (nI c) (nI k) (nI (g 0))) (nI ca))), (9, .int (-1)), (8, .int (nI ca)), (7, .int (nI k)), (6, .int (mk4 (g 3) (mbF F2 g (nI c)))), (0, .ref (A 0)), (1, .int (nI (g 3))), (2, .int (nI c)), (3, .int (nI (g 0)))]) hx hb dL_isFlown_128 hl (by decide) rfl (fun ls hl => ?_)
            refine lv_iload hx hb dL_isFlown_130 (lv_at hl 1 rfl) ?_
            refine lv_if_lt (tgt := 155) hx hb dL_isFlown_132 (by decide) (fun _ => ?_) (fun c => absurd m1_lt c)
            refine lv_iload hx hb dL_isFlown_155 (lv_at hl 0 rfl) ?_
            refine lv_if_lt (tgt := 172) hx hb dL_isFlown_157 (by decide) (fun c5 => ?_) (fun c5 => ?_)
            · refine lv_iinc (v := nI (ca + 1)) (lv' := [(8, .int (nI (ca + 1))), (10, .int (fCat (hBl F2 g (nI c) (nI k) (nI (g 0))) (nI ca))), (9, .int (-1)), (7, .int (nI k)), (6, .int (mk4 (g 3) (mbF F2 g (nI c)))), (0, .ref (A 0)), (1, .int (nI (g 3))), (2, .int (nI c)), (3, .int (nI (g 0)))]) hx hb dL_isFlown_172 hl (k := 2) rfl (nI_inc _) (by decide) rfl (fun ls hl => ?_)
              refine lv_goto (tgt := 101) hx hb dL_isFlown_175 (by decide) ?_
              exact ih (ca + 1) (by omega) ls (lv_sub hl [0, 3, 4, 5, 6, 7, 8] rfl)
            · refine lv_iload hx hb dL_isFlown_160 (lv_at hl 4 rfl) ?_
              refine lv_iload hx hb dL_isFlown_162 (lv_at hl 3 rfl) ?_
              refine lv_ishr hx hb dL_isFlown_164 ?_
              refine lv_iconst (v := nI 1) hx hb dL_isFlown_165 (by decide) ?_
              refine lv_iand hx hb dL_isFlown_166 ?_
              rw [mb_bit hg3 hkl, if_pos (mb_p hn c5)]
              refine lv_if_ne (tgt := 172) hx hb dL_isFlown_167 (by decide) (fun _ => ?_) (fun c => absurd c (by decide))
              refine lv_iinc (v := nI (ca + 1)) (lv' := [(8, .int (nI (ca + 1))), (10, .int (fCat (hBl F2 g (nI c) (nI k) (nI (g 0))) (nI ca))), (9, .int (-1)), (7, .int (nI k)), (6, .int (mk4 (g 3) (mbF F2 g (nI c)))), (0, .ref (A 0)), (1, .int (nI (g 3))), (2, .int (nI c)), (3, .int (nI (g 0)))]) hx hb dL_isFlown_172 hl (k := 2) rfl (nI_inc _) (by decide) rfl (fun ls hl => ?_)
              refine lv_goto (tgt := 101) hx hb dL_isFlown_175 (by decide) ?_
              exact ih (ca + 1) (by omega) ls (lv_sub hl [0, 3, 4, 5, 6, 7, 8] rfl)
          · have hbl : hBl F2 g (nI c) (nI k) (nI (g 0)) = nI (ch + r) := (fl_b e28 e29 hc hg0 c7).trans c6
            refine lv_iload hx hb dL_isFlown_101 (lv_at hl 0 rfl) ?_
            refine lv_iconst (v := nI 4) hx hb dL_isFlown_103 (by decide) ?_
            refine lv_icmp_ge (tgt := 178) hx hb dL_isFlown_104 (by decide) (fun c => absurd c (nI_ge (by omega) (by decide))) (fun _ => ?_)
            refine lv_aload_n hx hb dL_isFlown_107 rfl (lv_at hl 3 rfl) ?_
            refine lv_iload hx hb dL_isFlown_108 (lv_at hl 1 rfl) ?_
            refine lv_iload_n hx hb dL_isFlown_110 rfl (lv_at hl 6 rfl) ?_
            refine lv_iload hx hb dL_isFlown_111 (lv_at hl 0 rfl) ?_
            refine pr_V (As := [.int (nI k), .int (nI (g 0)), .int (nI ca)]) (rest := []) (v := some (.int (fCat (hIF F2 g (nI k) (nI (g 0))) (nI ca)))) S hG2 (c_X7_inForce l G hlf A F2 g H2 hR2 (nI k) (nI (g 0)) (nI ca)) (kOr_nn (k_ix hkl (by omega)) (kOr_nn (k_day hg0) (k_cat (by omega)))) gL_isFlown_X7_inForce rfl ⟨rfl, rfl⟩ np_inForce ⟨Nat.le_of_ble_eq_true rfl, Nat.le_of_ble_eq_true rfl⟩ (rd_rcv hG2.1 (rP_0 hR2) rfl) rfl hl.1 rfl (Nat.le_of_ble_eq_true rfl) ⟨Nat.le_of_ble_eq_true rfl, Nat.le_of_ble_eq_true rfl⟩ dL_isFlown_113 ?_
            refine W.eq (g2 := F0 mZ 116 ls [.int (fCat (hIF F2 g (nI k) (nI (g 0))) (nI ca))]) rfl ?_
            rw [c6, fc_p (by omega)]
            refine lv_istore (lv' := [(9, .int (nI (ch + r + 10 * ca))), (8, .int (nI ca)), (7, .int (nI k)), (6, .int (mk4 (g 3) (mbF F2 g (nI c)))), (0, .ref (A 0)), (1, .int (nI (g 3))), (2, .int (nI c)), (3, .int (nI (g 0)))]) hx hb dL_isFlown_116 hl (by decide) rfl (fun ls hl => ?_)
            refine lv_aload_n hx hb dL_isFlown_118 rfl (lv_at hl 4 rfl) ?_
            refine lv_iload_n hx hb dL_isFlown_119 rfl (lv_at hl 6 rfl) ?_
            refine lv_iload hx hb dL_isFlown_120 (lv_at hl 2 rfl) ?_
            refine lv_iload_n hx hb dL_isFlown_122 rfl (lv_at hl 7 rfl) ?_
            refine lv_iload hx hb dL_isFlown_123 (lv_at hl 1 rfl) ?_
            refine pr_V (As := [.int (nI c), .int (nI k), .int (nI (g 0)), .int (nI ca)]) (rest := []) (v := some (.int (fCat (hBl F2 g (nI c) (nI k) (nI (g 0))) (nI ca)))) S hG2 (c_X7_believes l G hlf A F2 g H2 hR2 (nI c) (nI k) (nI (g 0)) (nI ca)) (kOr_nn (k_ix hc (by decide)) (kOr_nn (k_ix hkl (by omega)) (kOr_nn (ka_n (lo := g 0) (hi := 399) rfl rfl (Nat.le_refl _) hg0 (by decide)) (k_cat (by omega))))) gL_isFlown_X7_believes rfl ⟨rfl, rfl⟩ np_believes ⟨Nat.le_of_ble_eq_true rfl, Nat.le_of_ble_eq_true rfl⟩ (rd_rcv hG2.1 (rP_0 hR2) rfl) rfl hl.1 rfl (Nat.le_of_ble_eq_true rfl) ⟨Nat.le_of_ble_eq_true rfl, Nat.le_of_ble_eq_true rfl⟩ dL_isFlown_125 ?_
            refine W.eq (g2 := F0 mZ 128 ls [.int (fCat (hBl F2 g (nI c) (nI k) (nI (g 0))) (nI ca))]) rfl ?_
            rw [hbl, fc_p (by omega)]
            refine lv_istore (lv' := [(10, .int (nI (ch + r + 10 * ca))), (9, .int (nI (ch + r + 10 * ca))), (8, .int (nI ca)), (7, .int (nI k)), (6, .int (mk4 (g 3) (mbF F2 g (nI c)))), (0, .ref (A 0)), (1, .int (nI (g 3))), (2, .int (nI c)), (3, .int (nI (g 0)))]) hx hb dL_isFlown_128 hl (by decide) rfl (fun ls hl => ?_)
            refine lv_iload hx hb dL_isFlown_130 (lv_at hl 1 rfl) ?_
            refine lv_if_lt (tgt := 155) hx hb dL_isFlown_132 (by decide) (fun c => absurd c (nI_pos (by omega))) (fun _ => ?_)
            refine lv_iload hx hb dL_isFlown_135 (lv_at hl 0 rfl) ?_
            refine lv_iload hx hb dL_isFlown_137 (lv_at hl 1 rfl) ?_
            refine lv_icmp_ne (tgt := 170) hx hb dL_isFlown_139 (by decide) (fun c => absurd rfl c) (fun _ => ?_)
            refine lv_iload hx hb dL_isFlown_142 (lv_at hl 4 rfl) ?_
            refine lv_iload hx hb dL_isFlown_144 (lv_at hl 3 rfl) ?_
            refine lv_ishr hx hb dL_isFlown_146 ?_
            refine lv_iconst (v := nI 1) hx hb dL_isFlown_147 (by decide) ?_
            refine lv_iand hx hb dL_isFlown_148 ?_
            rw [mb_bit hg3 hkl, if_neg (mb_n (hbl.trans c6.symm) (by rw [c6]; exact nI_m1 (by omega)))]
            refine lv_if_le (tgt := 172) hx hb dL_isFlown_149 (by decide) (fun _ => ?_) (fun c => absurd (by decide) c)
            refine lv_iinc (v := nI (ca + 1)) (lv' := [(8, .int (nI (ca + 1))), (10, .int (nI (ch + r + 10 * ca))), (9, .int (nI (ch + r + 10 * ca))), (7, .int (nI k)), (6, .int (mk4 (g 3) (mbF F2 g (nI c)))), (0, .ref (A 0)), (1, .int (nI (g 3))), (2, .int (nI c)), (3, .int (nI (g 0)))]) hx hb dL_isFlown_172 hl (k := 2) rfl (nI_inc _) (by decide) rfl (fun ls hl => ?_)
            refine lv_goto (tgt := 101) hx hb dL_isFlown_175 (by decide) ?_
            exact ih (ca + 1) (by omega) ls (lv_sub hl [0, 3, 4, 5, 6, 7, 8] rfl)
      exact loop101 4 0 rfl ls (lv_sub hl [0, 1, 2, 3, 4, 5, 6] rfl)
  exact loop92 (g 3) 0 (by omega) ls (lv_sub hl [0, 1, 5, 6, 7, 4] rfl)
