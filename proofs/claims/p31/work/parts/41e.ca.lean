section QLW
variable {p : Program} {l : Launch} {e : Env} {s : State} {m : MethodId} {args : Array Value} {below : List Frame} {meth : Method} {c : Code} {Q : State → Prop} {G : GT}
set_option maxHeartbeats 4000000 in
theorem ca_25 {f : Nat → Nat → Int32} {g : Nat → Nat} {i v : Int32} (hl : g 5 < 16) : caAdd f g i v 25 (g 5) = v := by
  rw [caAdd_ne (by decide), noAdd_25 hl]
set_option maxHeartbeats 4000000 in
set_option maxRecDepth 100000 in
theorem lc_ca (S : CallFix p m c cL_law 13 s args wsL_law RL) (hlf : l.stackTraces = false) (hz : G.2.2.1 = s.heap.size) {H : Heap} {locs : List Loc} {cells slots : Nat} {f : Nat → Nat → Int32} {g : Nat → Nat} (hR : RP G (A0 s.heap.size) f g H) (hI : IV f g) (hS : va_S (fun q => s.heap.size ≤ q) s.heap H locs) (hG : GK G H s) {ls : Array Slot} {x y : Int32} {k pr a1 a2 R : Nat} (h3 : 1 ≤ g 3) (hpr : pr < g 3) (hto : g 0 + a1 + a2 ≤ 399) (hRm : R = 1 ∧ g 5 < 16 ∨ R = 0) (hc : cells + 10 ≤ 687763 ∧ slots + 60 ≤ 7038409) (hl : lv_has ls 13 [(11, .int (nI R)), (10, .int (nI (g 0 + a1 + a2))), (9, .int (nI (g 0 + a1))), (8, .int (nI pr)), (7, .int (nI (g 0))), (6, .int y), (5, .int x), (4, .int (nI k)), (3, .int (nI (g 7))), (2, .int (nI (g 3))), (0, .ref G.2.2.2.1), (1, .ref (A0 s.heap.size 0))])
    (kk : ∀ (H2 : Heap) (locs2 : List Loc) (f2 : Nat → Nat → Int32) (g2 : Nat → Nat) (cells2 slots2 : Nat) (ls2 : Array Slot), RP G (A0 s.heap.size) f2 g2 H2 → IV f2 g2 → va_S (fun q => s.heap.size ≤ q) s.heap H2 locs2 → GK G H2 s → g2 3 = g 3 → cells2 ≤ cells + 4 → slots2 ≤ slots + 24 → lv_has ls2 13 [(3, .int (nI (g2 7))), (4, .int (nI k)), (0, .ref G.2.2.2.1), (1, .ref (A0 s.heap.size 0)), (2, .int (nI (g 3)))] → W p l e room_1 s m args below meth c H2 locs2 cells2 slots2 Q (F0 m 712 ls2 [])) : W p l e room_1 s m args below meth c H locs cells slots Q (F0 m 534 ls []) := by
  have hx := S.1
  have hb := S.2.1
  have hown := S.2.2.2.1
  have hts := S.2.2.2.2
  have hA : RA G (A0 s.heap.size) := ra_0 (Nat.le_of_eq hz)
  have hDA : ∀ k, rD k → s.heap.size ≤ A0 s.heap.size k := fun k _ => A0_ge
  have hg0 := hI.1.1.1
  have hg1 := hI.1.1.2.1
  have hg3 := hI.1.1.2.2.1
  have hg4 := hI.1.1.2.2.2.1
  have hg5 := hI.1.1.2.2.2.2.1
  have hg7 := hI.1.1.2.2.2.2.2
  refine lv_iload hx hb dL_law_534 (lv_at hl 0 rfl) ?_
  rcases hRm with ⟨rfl, h5⟩ | rfl
  · refine lv_if_eq (tgt := 712) hx hb dL_law_536 (by decide) (fun c => absurd c (by decide)) (fun _ => ?_)
    refine lv_aload_n hx hb dL_law_539 rfl (lv_at hl 11 rfl) ?_
    refine lv_iconst (v := nI 4) hx hb dL_law_540 (by decide) ?_
    refine pr_V (As := [.int (nI 4)]) (rest := []) (v := some (.int (mny f g (nI 4)))) S hG (c_X7_many l G hlf (A0 s.heap.size) f g H hR (nI 4)) (k_man (by decide)) gL_law_X7_many rfl ⟨rfl, rfl⟩ np_many ⟨Nat.le_of_ble_eq_true rfl, Nat.le_of_ble_eq_true rfl⟩ (rd_rcv hG.1 (rP_0 hR) rfl) rfl hl.1 rfl (Nat.le_of_ble_eq_true rfl) ⟨by show cells + 1 ≤ 687763; omega, by show slots + 6 ≤ 7038409; omega⟩ dL_law_541 ?_
    refine W.eq (g2 := F0 m 544 ls [.int (mny f g (nI 4))]) rfl ?_
    rw [my_4]
    by_cases hp : 0 < g 5
    · refine lv_if_le (tgt := 712) hx hb dL_law_544 (by decide) (fun c => absurd c (nI_nle hp (by omega))) (fun _ => ?_)
      refine lv_aload_n hx hb dL_law_547 rfl (lv_at hl 11 rfl) ?_
      refine lv_iload hx hb dL_law_548 (lv_at hl 5 rfl) ?_
      refine lv_aload_n hx hb dL_law_550 rfl (lv_at hl 11 rfl) ?_
      refine lv_iconst (v := nI 4) hx hb dL_law_551 (by decide) ?_
      refine pr_V (As := [.int (nI 4)]) (rest := [.int y, .ref (A0 s.heap.size 0)]) (v := some (.int (mny f g (nI 4)))) S hG (c_X7_many l G hlf (A0 s.heap.size) f g H hR (nI 4)) (k_man (by decide)) gL_law_X7_many rfl ⟨rfl, rfl⟩ np_many ⟨Nat.le_of_ble_eq_true rfl, Nat.le_of_ble_eq_true rfl⟩ (rd_rcv hG.1 (rP_0 hR) rfl) rfl hl.1 rfl (Nat.le_of_ble_eq_true rfl) ⟨by show cells + 1 ≤ 687763; omega, by show slots + 6 ≤ 7038409; omega⟩ dL_law_552 ?_
      refine W.eq (g2 := F0 m 555 ls [.int (mny f g (nI 4)), .int y, .ref (A0 s.heap.size 0)]) rfl ?_
      rw [my_4]
      obtain ⟨j, hj, ej⟩ := bel_ex y (N := g 5) (by omega) (by omega)
      refine rd_S (As := [.int y, .int (nI (g 5))]) (rest := [.ref (A0 s.heap.size 0)]) (v := some (.int (bel y (nI (g 5))))) S hG (c_L_below l G H y (nI (g 5)) (nI_ne0 hp (by omega))) gL_law_L_below rfl ⟨rfl, rfl⟩ nq_below ⟨Nat.le_of_ble_eq_true rfl, Nat.le_of_ble_eq_true rfl⟩ rfl hl.1 rfl (Nat.le_of_ble_eq_true rfl) ⟨by show cells ≤ 687763; omega, by show slots ≤ 7038409; omega⟩ dL_law_555 ?_
      refine W.eq (g2 := F0 m 558 ls [.int (bel y (nI (g 5))), .ref (A0 s.heap.size 0)]) rfl ?_
      rw [ej]
      refine lv_iconst (v := nI 0) hx hb dL_law_558 (by decide) ?_
      refine pr_V (As := [.int (nI j), .int (nI 0)]) (rest := []) (v := some (.int (ofNo f g (nI j) (nI 0)))) S hG (c_X7_ofNotice l G hlf (A0 s.heap.size) f g H hR (nI j) (nI 0)) (kOr_nn (k_ix hj (by omega)) (by decide)) gL_law_X7_ofNotice rfl ⟨rfl, rfl⟩ np_ofNotice ⟨Nat.le_of_ble_eq_true rfl, Nat.le_of_ble_eq_true rfl⟩ (rd_rcv hG.1 (rP_0 hR) rfl) rfl hl.1 rfl (Nat.le_of_ble_eq_true rfl) ⟨by show cells + 1 ≤ 687763; omega, by show slots + 6 ≤ 7038409; omega⟩ dL_law_559 ?_
      refine W.eq (g2 := F0 m 562 ls [.int (ofNo f g (nI j) (nI 0))]) rfl ?_
      rw [no_0, rowAt_in (show j < 16 by omega) (by decide)]
      refine lv_iconst (v := nI 3) hx hb dL_law_562 (by decide) ?_
      refine lv_icmp_ge (tgt := 712) hx hb dL_law_563 (by decide) (fun c5 => ?_) (fun c5 => ?_)
      · exact kk H locs f g cells slots ls hR hI hS hG rfl (by omega) (by omega) (lv_sub hl [8, 7, 10, 11, 9] rfl)
      · have hk3 : ¬ f 22 j = 3 := fun z => c5 (by rw [z]; decide)
        refine lv_aload_n hx hb dL_law_566 rfl (lv_at hl 11 rfl) ?_
        refine lv_iload hx hb dL_law_567 (lv_at hl 5 rfl) ?_
        refine lv_aload_n hx hb dL_law_569 rfl (lv_at hl 11 rfl) ?_
        refine lv_iconst (v := nI 4) hx hb dL_law_570 (by decide) ?_
        refine pr_V (As := [.int (nI 4)]) (rest := [.int y, .ref (A0 s.heap.size 0)]) (v := some (.int (mny f g (nI 4)))) S hG (c_X7_many l G hlf (A0 s.heap.size) f g H hR (nI 4)) (k_man (by decide)) gL_law_X7_many rfl ⟨rfl, rfl⟩ np_many ⟨Nat.le_of_ble_eq_true rfl, Nat.le_of_ble_eq_true rfl⟩ (rd_rcv hG.1 (rP_0 hR) rfl) rfl hl.1 rfl (Nat.le_of_ble_eq_true rfl) ⟨by show cells + 1 ≤ 687763; omega, by show slots + 6 ≤ 7038409; omega⟩ dL_law_571 ?_
        refine W.eq (g2 := F0 m 574 ls [.int (mny f g (nI 4)), .int y, .ref (A0 s.heap.size 0)]) rfl ?_
        rw [my_4]
        refine rd_S (As := [.int y, .int (nI (g 5))]) (rest := [.ref (A0 s.heap.size 0)]) (v := some (.int (bel y (nI (g 5))))) S hG (c_L_below l G H y (nI (g 5)) (nI_ne0 hp (by omega))) gL_law_L_below rfl ⟨rfl, rfl⟩ nq_below ⟨Nat.le_of_ble_eq_true rfl, Nat.le_of_ble_eq_true rfl⟩ rfl hl.1 rfl (Nat.le_of_ble_eq_true rfl) ⟨by show cells ≤ 687763; omega, by show slots ≤ 7038409; omega⟩ dL_law_574 ?_
        refine W.eq (g2 := F0 m 577 ls [.int (bel y (nI (g 5))), .ref (A0 s.heap.size 0)]) rfl ?_
        rw [ej]
        refine pw_V (As := [.int (nI j)]) (rest := []) (v := some (.int (nI (g 5)))) S hA hG hS hDA (c_X7_cancel l G hlf (A0 s.heap.size) f g H hR hA (nI j)) (kOr_nn (k_ix hj (by omega)) (kOr_nn (if_neg (by rw [rowAt_in (show j < 16 by omega) (by decide)]; exact hk3)) (k_nl h5))) gL_law_X7_cancel rfl ⟨rfl, rfl⟩ np_cancel ⟨Nat.le_of_ble_eq_true rfl, Nat.le_of_ble_eq_true rfl⟩ (rd_rcv hG.1 (rP_0 hR) rfl) rfl hl.1 rfl (Nat.le_of_ble_eq_true rfl) ⟨by show cells + 1 ≤ 687763; omega, by show slots + 6 ≤ 7038409; omega⟩ dL_law_577 (fun H1 locs1 hR1 hS1 hG1 => ?_)
        refine W.eq (g2 := F0 m 580 ls [.int (nI (g 5))]) rfl ?_
        refine lv_aload_n hx hb dL_law_580 rfl (lv_at hl 11 rfl) ?_
        refine lv_iconst (v := nI 4) hx hb dL_law_581 (by decide) ?_
        refine pr_V (As := [.int (nI 4)]) (rest := [.int (nI (g 5))]) (v := some (.int (mny (caAdd f g (nI j) (nI (g 0))) (gset g 5 (g 5 + 1)) (nI 4)))) S hG1 (c_X7_many l G hlf (A0 s.heap.size) (caAdd f g (nI j) (nI (g 0))) (gset g 5 (g 5 + 1)) H1 hR1 (nI 4)) (k_man (by decide)) gL_law_X7_many rfl ⟨rfl, rfl⟩ np_many ⟨Nat.le_of_ble_eq_true rfl, Nat.le_of_ble_eq_true rfl⟩ (rd_rcv hG1.1 (rP_0 hR1) rfl) rfl hl.1 rfl (Nat.le_of_ble_eq_true rfl) ⟨by show cells + 1 + 1 ≤ 687763; omega, by show slots + 6 + 6 ≤ 7038409; omega⟩ dL_law_582 ?_
        refine W.eq (g2 := F0 m 585 ls [.int (mny (caAdd f g (nI j) (nI (g 0))) (gset g 5 (g 5 + 1)) (nI 4)), .int (nI (g 5))]) rfl ?_
        rw [my_4]
        refine W.eq (g2 := F0 m 585 ls [.int (nI (g 5 + 1)), .int (nI (g 5))]) rfl ?_
        refine lv_iconst (v := nI 1) hx hb dL_law_585 (by decide) ?_
        refine lv_isub hx hb dL_law_586 ?_
        rw [pk_sub (a := g 5 + 1) (b := 1) (by omega)]
        refine lv_icmp_ne (tgt := 607) hx hb dL_law_587 (by decide) (fun c => absurd rfl c) (fun _ => ?_)
        refine lv_aload_n hx hb dL_law_590 rfl (lv_at hl 11 rfl) ?_
        refine lv_aload_n hx hb dL_law_591 rfl (lv_at hl 11 rfl) ?_
        refine lv_iconst (v := nI 4) hx hb dL_law_592 (by decide) ?_
        refine pr_V (As := [.int (nI 4)]) (rest := [.ref (A0 s.heap.size 0)]) (v := some (.int (mny (caAdd f g (nI j) (nI (g 0))) (gset g 5 (g 5 + 1)) (nI 4)))) S hG1 (c_X7_many l G hlf (A0 s.heap.size) (caAdd f g (nI j) (nI (g 0))) (gset g 5 (g 5 + 1)) H1 hR1 (nI 4)) (k_man (by decide)) gL_law_X7_many rfl ⟨rfl, rfl⟩ np_many ⟨Nat.le_of_ble_eq_true rfl, Nat.le_of_ble_eq_true rfl⟩ (rd_rcv hG1.1 (rP_0 hR1) rfl) rfl hl.1 rfl (Nat.le_of_ble_eq_true rfl) ⟨by show cells + 1 + 1 ≤ 687763; omega, by show slots + 6 + 6 ≤ 7038409; omega⟩ dL_law_593 ?_
        refine W.eq (g2 := F0 m 596 ls [.int (mny (caAdd f g (nI j) (nI (g 0))) (gset g 5 (g 5 + 1)) (nI 4)), .ref (A0 s.heap.size 0)]) rfl ?_
        rw [my_4]
        refine W.eq (g2 := F0 m 596 ls [.int (nI (g 5 + 1)), .ref (A0 s.heap.size 0)]) rfl ?_
        refine lv_iconst (v := nI 1) hx hb dL_law_596 (by decide) ?_
        refine lv_isub hx hb dL_law_597 ?_
        rw [pk_sub (a := g 5 + 1) (b := 1) (by omega)]
        refine W.eq (g2 := F0 m 598 ls [.int (nI (g 5)), .ref (A0 s.heap.size 0)]) rfl ?_
        refine lv_iconst (v := nI 3) hx hb dL_law_598 (by decide) ?_
        refine pr_V (As := [.int (nI (g 5)), .int (nI 3)]) (rest := []) (v := some (.int (ofNo (caAdd f g (nI j) (nI (g 0))) (gset g 5 (g 5 + 1)) (nI (g 5)) (nI 3)))) S hG1 (c_X7_ofNotice l G hlf (A0 s.heap.size) (caAdd f g (nI j) (nI (g 0))) (gset g 5 (g 5 + 1)) H1 hR1 (nI (g 5)) (nI 3)) (kOr_nn (k_ix (n := gset g 5 (g 5 + 1) 5) (show g 5 < g 5 + 1 by omega) (by show g 5 + 1 < 65536; omega)) (by decide)) gL_law_X7_ofNotice rfl ⟨rfl, rfl⟩ np_ofNotice ⟨Nat.le_of_ble_eq_true rfl, Nat.le_of_ble_eq_true rfl⟩ (rd_rcv hG1.1 (rP_0 hR1) rfl) rfl hl.1 rfl (Nat.le_of_ble_eq_true rfl) ⟨by show cells + 1 + 1 ≤ 687763; omega, by show slots + 6 + 6 ≤ 7038409; omega⟩ dL_law_599 ?_
        refine W.eq (g2 := F0 m 602 ls [.int (ofNo (caAdd f g (nI j) (nI (g 0))) (gset g 5 (g 5 + 1)) (nI (g 5)) (nI 3))]) rfl ?_
        rw [no_3, rowAt_in h5 (by decide), ca_25 h5]
        refine lv_iload hx hb dL_law_602 (lv_at hl 4 rfl) ?_
        refine lv_icmp_eq (tgt := 712) hx hb dL_law_604 (by decide) (fun _ => ?_) (fun c => absurd rfl c)
        exact kk H1 locs1 (caAdd f g (nI j) (nI (g 0))) (gset g 5 (g 5 + 1)) (cells + 1) (slots + 6) ls hR1 (iv_cancel hI hj hk3 h5) hS1 hG1 rfl (by omega) (by omega) (lv_sub hl [8, 7, 10, 11, 9] rfl)
    · refine lv_if_le (tgt := 712) hx hb dL_law_544 (by decide) (fun _ => ?_) (fun c => absurd (nI_le (a := g 5) (b := 0) (by omega) (by decide)) c)
      exact kk H locs f g cells slots ls hR hI hS hG rfl (by omega) (by omega) (lv_sub hl [8, 7, 10, 11, 9] rfl)
  · refine lv_if_eq (tgt := 712) hx hb dL_law_536 (by decide) (fun _ => ?_) (fun c => absurd rfl c)
    exact kk H locs f g cells slots ls hR hI hS hG rfl (by omega) (by omega) (lv_sub hl [8, 7, 10, 11, 9] rfl)
end QLW
