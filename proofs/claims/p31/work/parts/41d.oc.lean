section QLW
variable {p : Program} {l : Launch} {e : Env} {s : State} {m : MethodId} {args : Array Value} {below : List Frame} {meth : Method} {c : Code} {Q : State → Prop} {G : GT}
set_option maxHeartbeats 4000000 in
set_option maxRecDepth 100000 in
theorem lc_oc (S : CallFix p m c cL_law 13 s args wsL_law RL) (hlf : l.stackTraces = false) (hz : G.2.2.1 = s.heap.size) {H : Heap} {locs : List Loc} {cells slots : Nat} {f : Nat → Nat → Int32} {g : Nat → Nat} (hR : RP G (A0 s.heap.size) f g H) (hI : IV f g) (hS : va_S (fun q => s.heap.size ≤ q) s.heap H locs) (hG : GK G H s) {ls : Array Slot} {x y : Int32} {k pr a1 a2 R : Nat} (h3 : 1 ≤ g 3) (hpr : pr < g 3) (hto : g 0 + a1 + a2 ≤ 399) (hRm : R = 1 ∧ g 5 < 16 ∨ R = 0) (hc : cells + 10 ≤ 687763 ∧ slots + 60 ≤ 7038409) (hl : lv_has ls 13 [(11, .int (nI R)), (10, .int (nI (g 0 + a1 + a2))), (9, .int (nI (g 0 + a1))), (8, .int (nI pr)), (7, .int (nI (g 0))), (6, .int y), (5, .int x), (4, .int (nI k)), (3, .int (nI (g 7))), (2, .int (nI (g 3))), (0, .ref G.2.2.2.1), (1, .ref (A0 s.heap.size 0))])
    (kk : ∀ (H2 : Heap) (locs2 : List Loc) (f2 : Nat → Nat → Int32) (g2 : Nat → Nat) (cells2 slots2 : Nat) (ls2 : Array Slot), RP G (A0 s.heap.size) f2 g2 H2 → IV f2 g2 → va_S (fun q => s.heap.size ≤ q) s.heap H2 locs2 → GK G H2 s → g2 3 = g 3 → cells2 ≤ cells + 4 → slots2 ≤ slots + 24 → lv_has ls2 13 [(3, .int (nI (g2 7))), (4, .int (nI k)), (0, .ref G.2.2.2.1), (1, .ref (A0 s.heap.size 0)), (2, .int (nI (g 3)))] → W p l e room_1 s m args below meth c H2 locs2 cells2 slots2 Q (F0 m 712 ls2 [])) : W p l e room_1 s m args below meth c H locs cells slots Q (F0 m 479 ls []) := by
  have hx := S.1
  have hb := S.2.1
  have hown := S.2.2.2.1
  have hts := S.2.2.2.2
  have hA : RA G (A0 s.heap.size) := ra_0 (Nat.le_of_eq hz)
  have hDA : ∀ k, rD k → s.heap.size ≤ A0 s.heap.size k := fun k _ => A0_ge
  have hg0 := hI.1.1.1
  have hg1 := hI.1.1.2.1
  have hg3 := hI.1.1.2.2.1
  have hg4 := hI.1.1.2.2.2.1
  have hg5 := hI.1.1.2.2.2.2.1
  have hg7 := hI.1.1.2.2.2.2.2
  refine lv_iload hx hb dL_law_479 (lv_at hl 0 rfl) ?_
  rcases hRm with ⟨rfl, h5⟩ | rfl
  · refine lv_if_eq (tgt := 712) hx hb dL_law_481 (by decide) (fun c => absurd c (by decide)) (fun _ => ?_)
    refine lv_iload hx hb dL_law_484 (lv_at hl 5 rfl) ?_
    refine lv_iconst (v := nI 2) hx hb dL_law_486 (by decide) ?_
    obtain ⟨b1, hb1, eb1⟩ := bel_ex y (N := 2) (by omega) (by omega)
    refine rd_S (As := [.int y, .int (nI 2)]) (rest := []) (v := some (.int (bel y (nI 2)))) S hG (c_L_below l G H y (nI 2) (by decide)) gL_law_L_below rfl ⟨rfl, rfl⟩ nq_below ⟨Nat.le_of_ble_eq_true rfl, Nat.le_of_ble_eq_true rfl⟩ rfl hl.1 rfl (Nat.le_of_ble_eq_true rfl) ⟨by show cells ≤ 687763; omega, by show slots ≤ 7038409; omega⟩ dL_law_487 ?_
    refine W.eq (g2 := F0 m 490 ls [.int (bel y (nI 2))]) rfl ?_
    rw [eb1]
    refine lv_if_ne (tgt := 512) hx hb dL_law_490 (by decide) (fun c5 => ?_) (fun c5 => ?_)
    · refine lv_aload_n hx hb dL_law_512 rfl (lv_at hl 11 rfl) ?_
      refine lv_iload hx hb dL_law_513 (lv_at hl 3 rfl) ?_
      refine lv_iload hx hb dL_law_515 (lv_at hl 2 rfl) ?_
      refine lv_iload hx hb dL_law_517 (lv_at hl 1 rfl) ?_
      refine pw_V (As := [.int (nI pr), .int (nI (g 0 + a1)), .int (nI (g 0 + a1 + a2))]) (rest := []) (v := some (.int (nI (g 5)))) S hA hG hS hDA (c_X7_close l G hlf (A0 s.heap.size) f g H hR hA (nI pr) (nI (g 0 + a1)) (nI (g 0 + a1 + a2))) (kOr_nn (k_ix hpr (by omega)) (kOr_nn (k_ti (by omega) (by omega) hto) (k_nl h5))) gL_law_X7_close rfl ⟨rfl, rfl⟩ np_close ⟨Nat.le_of_ble_eq_true rfl, Nat.le_of_ble_eq_true rfl⟩ (rd_rcv hG.1 (rP_0 hR) rfl) rfl hl.1 rfl (Nat.le_of_ble_eq_true rfl) ⟨by show cells + 1 ≤ 687763; omega, by show slots + 6 ≤ 7038409; omega⟩ dL_law_519 (fun H1 locs1 hR1 hS1 hG1 => ?_)
      refine W.eq (g2 := F0 m 522 ls [.int (nI (g 5))]) rfl ?_
      refine lv_aload_n hx hb dL_law_522 rfl (lv_at hl 11 rfl) ?_
      refine lv_iconst (v := nI 4) hx hb dL_law_523 (by decide) ?_
      refine pr_V (As := [.int (nI 4)]) (rest := [.int (nI (g 5))]) (v := some (.int (mny (noAdd f g 2 (nI pr) 0 (nI (g 0 + a1)) (nI (g 0 + a1 + a2))) (gset g 5 (g 5 + 1)) (nI 4)))) S hG1 (c_X7_many l G hlf (A0 s.heap.size) (noAdd f g 2 (nI pr) 0 (nI (g 0 + a1)) (nI (g 0 + a1 + a2))) (gset g 5 (g 5 + 1)) H1 hR1 (nI 4)) (k_man (by decide)) gL_law_X7_many rfl ⟨rfl, rfl⟩ np_many ⟨Nat.le_of_ble_eq_true rfl, Nat.le_of_ble_eq_true rfl⟩ (rd_rcv hG1.1 (rP_0 hR1) rfl) rfl hl.1 rfl (Nat.le_of_ble_eq_true rfl) ⟨by show cells + 1 + 1 ≤ 687763; omega, by show slots + 6 + 6 ≤ 7038409; omega⟩ dL_law_524 ?_
      refine W.eq (g2 := F0 m 527 ls [.int (mny (noAdd f g 2 (nI pr) 0 (nI (g 0 + a1)) (nI (g 0 + a1 + a2))) (gset g 5 (g 5 + 1)) (nI 4)), .int (nI (g 5))]) rfl ?_
      rw [my_4]
      refine W.eq (g2 := F0 m 527 ls [.int (nI (g 5 + 1)), .int (nI (g 5))]) rfl ?_
      refine lv_iconst (v := nI 1) hx hb dL_law_527 (by decide) ?_
      refine lv_isub hx hb dL_law_528 ?_
      rw [pk_sub (a := g 5 + 1) (b := 1) (by omega)]
      refine lv_icmp_eq (tgt := 712) hx hb dL_law_529 (by decide) (fun _ => ?_) (fun c => absurd rfl c)
      exact kk H1 locs1 (noAdd f g 2 (nI pr) 0 (nI (g 0 + a1)) (nI (g 0 + a1 + a2))) (gset g 5 (g 5 + 1)) (cells + 1) (slots + 6) ls hR1 (iv_notice hI (by decide) h5 (by decide)) hS1 hG1 rfl (by omega) (by omega) (lv_sub hl [8, 7, 10, 11, 9] rfl)
    · refine lv_aload_n hx hb dL_law_493 rfl (lv_at hl 11 rfl) ?_
      refine lv_iload hx hb dL_law_494 (lv_at hl 5 rfl) ?_
      refine lv_iconst (v := nI 2) hx hb dL_law_496 (by decide) ?_
      refine lv_ishr hx hb dL_law_497 ?_
      refine lv_iconst (v := nI 3) hx hb dL_law_498 (by decide) ?_
      obtain ⟨b2, hb2, eb2⟩ := bel_ex (y >>> ((nI 2) &&& 31)) (N := 3) (by omega) (by omega)
      refine rd_S (As := [.int (y >>> ((nI 2) &&& 31)), .int (nI 3)]) (rest := [.ref (A0 s.heap.size 0)]) (v := some (.int (bel (y >>> ((nI 2) &&& 31)) (nI 3)))) S hG (c_L_below l G H (y >>> ((nI 2) &&& 31)) (nI 3) (by decide)) gL_law_L_below rfl ⟨rfl, rfl⟩ nq_below ⟨Nat.le_of_ble_eq_true rfl, Nat.le_of_ble_eq_true rfl⟩ rfl hl.1 rfl (Nat.le_of_ble_eq_true rfl) ⟨by show cells ≤ 687763; omega, by show slots ≤ 7038409; omega⟩ dL_law_499 ?_
      refine W.eq (g2 := F0 m 502 ls [.int (bel (y >>> ((nI 2) &&& 31)) (nI 3)), .ref (A0 s.heap.size 0)]) rfl ?_
      rw [eb2]
      refine lv_iload hx hb dL_law_502 (lv_at hl 2 rfl) ?_
      refine lv_iload hx hb dL_law_504 (lv_at hl 1 rfl) ?_
      refine pw_V (As := [.int (nI b2), .int (nI (g 0 + a1)), .int (nI (g 0 + a1 + a2))]) (rest := []) (v := some (.int (nI (g 5)))) S hA hG hS hDA (c_X7_out l G hlf (A0 s.heap.size) f g H hR hA (nI b2) (nI (g 0 + a1)) (nI (g 0 + a1 + a2))) (kOr_nn (k_ix hb2 (by decide)) (kOr_nn (k_ti (by omega) (by omega) hto) (k_nl h5))) gL_law_X7_out rfl ⟨rfl, rfl⟩ np_out ⟨Nat.le_of_ble_eq_true rfl, Nat.le_of_ble_eq_true rfl⟩ (rd_rcv hG.1 (rP_0 hR) rfl) rfl hl.1 rfl (Nat.le_of_ble_eq_true rfl) ⟨by show cells + 1 ≤ 687763; omega, by show slots + 6 ≤ 7038409; omega⟩ dL_law_506 (fun H2 locs2 hR2 hS2 hG2 => ?_)
      refine W.eq (g2 := F0 m 509 ls [.int (nI (g 5))]) rfl ?_
      refine lv_goto (tgt := 522) hx hb dL_law_509 (by decide) ?_
      refine lv_aload_n hx hb dL_law_522 rfl (lv_at hl 11 rfl) ?_
      refine lv_iconst (v := nI 4) hx hb dL_law_523 (by decide) ?_
      refine pr_V (As := [.int (nI 4)]) (rest := [.int (nI (g 5))]) (v := some (.int (mny (noAdd f g 1 (nI b2) 0 (nI (g 0 + a1)) (nI (g 0 + a1 + a2))) (gset g 5 (g 5 + 1)) (nI 4)))) S hG2 (c_X7_many l G hlf (A0 s.heap.size) (noAdd f g 1 (nI b2) 0 (nI (g 0 + a1)) (nI (g 0 + a1 + a2))) (gset g 5 (g 5 + 1)) H2 hR2 (nI 4)) (k_man (by decide)) gL_law_X7_many rfl ⟨rfl, rfl⟩ np_many ⟨Nat.le_of_ble_eq_true rfl, Nat.le_of_ble_eq_true rfl⟩ (rd_rcv hG2.1 (rP_0 hR2) rfl) rfl hl.1 rfl (Nat.le_of_ble_eq_true rfl) ⟨by show cells + 1 + 1 ≤ 687763; omega, by show slots + 6 + 6 ≤ 7038409; omega⟩ dL_law_524 ?_
      refine W.eq (g2 := F0 m 527 ls [.int (mny (noAdd f g 1 (nI b2) 0 (nI (g 0 + a1)) (nI (g 0 + a1 + a2))) (gset g 5 (g 5 + 1)) (nI 4)), .int (nI (g 5))]) rfl ?_
      rw [my_4]
      refine W.eq (g2 := F0 m 527 ls [.int (nI (g 5 + 1)), .int (nI (g 5))]) rfl ?_
      refine lv_iconst (v := nI 1) hx hb dL_law_527 (by decide) ?_
      refine lv_isub hx hb dL_law_528 ?_
      rw [pk_sub (a := g 5 + 1) (b := 1) (by omega)]
      refine lv_icmp_eq (tgt := 712) hx hb dL_law_529 (by decide) (fun _ => ?_) (fun c => absurd rfl c)
      exact kk H2 locs2 (noAdd f g 1 (nI b2) 0 (nI (g 0 + a1)) (nI (g 0 + a1 + a2))) (gset g 5 (g 5 + 1)) (cells + 1) (slots + 6) ls hR2 (iv_notice hI (by decide) h5 (by decide)) hS2 hG2 rfl (by omega) (by omega) (lv_sub hl [8, 7, 10, 11, 9] rfl)
  · refine lv_if_eq (tgt := 712) hx hb dL_law_481 (by decide) (fun _ => ?_) (fun c => absurd rfl c)
    exact kk H locs f g cells slots ls hR hI hS hG rfl (by omega) (by omega) (lv_sub hl [8, 7, 10, 11, 9] rfl)
end QLW
