/-! the law, case by case -/
section QCA
variable {p : Program} {l : Launch} {e : Env} {s : State} {m : MethodId} {args : Array Value} {below : List Frame} {meth : Method} {c : Code} {H : Heap} {locs : List Loc} {cells slots : Nat} {Q : State → Prop} {G : GT} {f : Nat → Nat → Int32} {g : Nat → Nat} {th : Int32} {b Lx i : Nat} {xs : Nat → Int32} {ls : Array Slot}
set_option maxHeartbeats 1000000 in
set_option maxRecDepth 100000 in
theorem lc_ofNotice (S : CallFix p m c cL_law 9 s args wsL_law RL) (hlf : l.stackTraces = false) (hz : G.2.2.1 = s.heap.size) (hG : GK G s.heap s) (hN : GN s) (hX : GX s) (hXs : va_X b Lx xs s s.heap) (hbl : b < s.heap.size) (hi : i + 5 < Lx) (hLx : Lx ≤ 3072) (hI : qLW G s th f g H locs) (hc : cells + 30 ≤ 1063676 ∧ slots + 2000 ≤ 5905075) (hl : lv_has ls 9 [(5, .int (nI i)), (0, .ref b), (1, .ref s.heap.size), (2, .ref (s.heap.size + 47)), (3, .ref (s.heap.size + 55)), (4, .ref (s.heap.size + 56))])   (kk : ∀ (th2 : Int32) (f2 : Nat → Nat → Int32) (g2 : Nat → Nat) (H2 : Heap) (locs2 : List Loc) (cells2 slots2 : Nat) (ls2 : Array Slot), qLW G s th2 f2 g2 H2 locs2 → cells2 ≤ cells + 21 → slots2 ≤ slots + 1660 → lv_has ls2 9 [(5, .int (nI i)), (0, .ref b), (1, .ref s.heap.size), (2, .ref (s.heap.size + 47)), (3, .ref (s.heap.size + 55)), (4, .ref (s.heap.size + 56))] → W p l e room_1 s m args below meth c H2 locs2 cells2 slots2 Q (F0 m 2103 ls2 [])) : W p l e room_1 s m args below meth c H locs cells slots Q (F0 m 1432 ls []) := by
  have hx := S.1
  have hb := S.2.1
  have h0 := lv_at hl 1 rfl
  have h5 := lv_at hl 0 rfl
  refine lv_aload_n hx hb dL_law_1432 rfl (lv_at hl 2 rfl) ?_
  refine law_arg (j := 1) S hXs hbl hI.2.2.2.2.2.2 rfl (by omega) hLx h0 h5 dL_law_1433 dL_law_1434 dL_law_1436 dL_law_1437 dL_law_1438 ?_
  refine law_arg (j := 2) S hXs hbl hI.2.2.2.2.2.2 rfl (by omega) hLx h0 h5 dL_law_1439 dL_law_1440 dL_law_1442 dL_law_1443 dL_law_1444 ?_
  refine lv_aload_n hx hb dL_law_1445 rfl (lv_at hl 4 rfl) ?_
  refine law_W (As := [.ref s.heap.size, .int (xs (i + 1)), .int (xs (i + 2)), .ref (s.heap.size + 55)]) (rest := []) S hz hG hN hI (fun r hr => c_L_ofNotice l G hlf (A0 s.heap.size) f g H hI.1 (ra_0 (Nat.le_of_eq hz)) (s.heap.size + 55) r hr (fun j hj => by have := A0_lt (z := s.heap.size) hj; omega) (xs (i + 1)) (xs (i + 2))) gL_law_L_ofNotice rfl ⟨rfl, rfl⟩ nmL_ofNotice ⟨Nat.le_of_ble_eq_true rfl, Nat.le_of_ble_eq_true rfl⟩ rfl hl.1 rfl (Nat.le_of_ble_eq_true rfl) ⟨by show cells + 1 ≤ 1063676; omega, by show slots + 6 ≤ 5905075; omega⟩ dL_law_1446 (fun H2 locs2 hA2 => ?_)
  refine lv_istore (lv' := (6, _) :: [(5, .int (nI i)), (0, .ref b), (1, .ref s.heap.size), (2, .ref (s.heap.size + 47)), (3, .ref (s.heap.size + 55)), (4, .ref (s.heap.size + 56))]) hx hb dL_law_1449 hl (by decide) rfl (fun ls hl => ?_)
  have h0 := lv_at hl 2 rfl
  have h5 := lv_at hl 1 rfl
  refine lv_aload_n hx hb dL_law_1451 rfl (lv_at hl 4 rfl) ?_
  refine law_arg (j := 1) S hXs hbl hA2.2.2.2.2.2 rfl (by omega) hLx h0 h5 dL_law_1452 dL_law_1453 dL_law_1455 dL_law_1456 dL_law_1457 ?_
  refine law_arg (j := 2) S hXs hbl hA2.2.2.2.2.2 rfl (by omega) hLx h0 h5 dL_law_1458 dL_law_1459 dL_law_1461 dL_law_1462 dL_law_1463 ?_
  refine law_M (As := [.int (xs (i + 1)), .int (xs (i + 2))]) (rest := []) S hz hG hX hA2 (fun B mc cp m1 m2 m3 m4 => lm_ofNotice l G (qlD s.heap.size) B mc cp th f g H2 hI.2.1 m1 m2 m3 m4 (xs (i + 1)) (xs (i + 2))) gL_law_X11_ofNotice rfl ⟨rfl, rfl⟩ nmX11_ofNotice ⟨Nat.le_of_ble_eq_true rfl, Nat.le_of_ble_eq_true rfl⟩ rfl hl.1 rfl (Nat.le_of_ble_eq_true rfl) ⟨by show cells + 1 + 0 ≤ 1063676; omega, by show slots + 6 + 0 ≤ 5905075; omega⟩ dL_law_1464 (fun H3 locs3 va hB3 => ?_)
  refine lv_istore (lv' := (7, _) :: (6, _) :: [(5, .int (nI i)), (0, .ref b), (1, .ref s.heap.size), (2, .ref (s.heap.size + 47)), (3, .ref (s.heap.size + 55)), (4, .ref (s.heap.size + 56))]) hx hb dL_law_1467 hl (by decide) rfl (fun ls hl => ?_)
  exact law_tail (t := 1469) S hz hG hB3 (by decide) hI.2.1 (fun _ => hI.2.1) ⟨Nat.le_of_ble_eq_true rfl, Nat.le_of_ble_eq_true rfl⟩ ⟨by show cells + 1 + 0 ≤ 1063676; omega, by show slots + 6 + 0 ≤ 5905075; omega⟩ hl dL_law_1469 dL_law_1470 dL_law_1473 dL_law_1475 dL_law_1480 dL_law_1482 dL_law_1485 dL_law_1486 dL_law_1487 dL_law_1488 dL_law_1490 dL_law_1491 dL_law_1492 dL_law_1497 (by decide) (fun f2 g2 ls2 hW hl2 => kk _ f2 g2 H3 locs3 _ _ ls2 hW (by omega) (by omega) hl2)
set_option maxHeartbeats 1000000 in
set_option maxRecDepth 100000 in
theorem lc_believes (S : CallFix p m c cL_law 9 s args wsL_law RL) (hlf : l.stackTraces = false) (hz : G.2.2.1 = s.heap.size) (hG : GK G s.heap s) (hN : GN s) (hX : GX s) (hXs : va_X b Lx xs s s.heap) (hbl : b < s.heap.size) (hi : i + 5 < Lx) (hLx : Lx ≤ 3072) (hI : qLW G s th f g H locs) (hc : cells + 30 ≤ 1063676 ∧ slots + 2000 ≤ 5905075) (hl : lv_has ls 9 [(5, .int (nI i)), (0, .ref b), (1, .ref s.heap.size), (2, .ref (s.heap.size + 47)), (3, .ref (s.heap.size + 55)), (4, .ref (s.heap.size + 56))])   (kk : ∀ (th2 : Int32) (f2 : Nat → Nat → Int32) (g2 : Nat → Nat) (H2 : Heap) (locs2 : List Loc) (cells2 slots2 : Nat) (ls2 : Array Slot), qLW G s th2 f2 g2 H2 locs2 → cells2 ≤ cells + 21 → slots2 ≤ slots + 1660 → lv_has ls2 9 [(5, .int (nI i)), (0, .ref b), (1, .ref s.heap.size), (2, .ref (s.heap.size + 47)), (3, .ref (s.heap.size + 55)), (4, .ref (s.heap.size + 56))] → W p l e room_1 s m args below meth c H2 locs2 cells2 slots2 Q (F0 m 2103 ls2 [])) : W p l e room_1 s m args below meth c H locs cells slots Q (F0 m 1500 ls []) := by
  have hx := S.1
  have hb := S.2.1
  have h0 := lv_at hl 1 rfl
  have h5 := lv_at hl 0 rfl
  refine lv_aload_n hx hb dL_law_1500 rfl (lv_at hl 2 rfl) ?_
  refine law_arg (j := 1) S hXs hbl hI.2.2.2.2.2.2 rfl (by omega) hLx h0 h5 dL_law_1501 dL_law_1502 dL_law_1504 dL_law_1505 dL_law_1506 ?_
  refine law_arg (j := 2) S hXs hbl hI.2.2.2.2.2.2 rfl (by omega) hLx h0 h5 dL_law_1507 dL_law_1508 dL_law_1510 dL_law_1511 dL_law_1512 ?_
  refine law_arg (j := 3) S hXs hbl hI.2.2.2.2.2.2 rfl (by omega) hLx h0 h5 dL_law_1513 dL_law_1514 dL_law_1516 dL_law_1517 dL_law_1518 ?_
  refine law_arg (j := 4) S hXs hbl hI.2.2.2.2.2.2 rfl (by omega) hLx h0 h5 dL_law_1519 dL_law_1520 dL_law_1522 dL_law_1523 dL_law_1524 ?_
  refine lv_aload_n hx hb dL_law_1525 rfl (lv_at hl 4 rfl) ?_
  refine law_W (As := [.ref s.heap.size, .int (xs (i + 1)), .int (xs (i + 2)), .int (xs (i + 3)), .int (xs (i + 4)), .ref (s.heap.size + 55)]) (rest := []) S hz hG hN hI (fun r hr => c_L_believes l G hlf (A0 s.heap.size) f g H hI.1 (ra_0 (Nat.le_of_eq hz)) (s.heap.size + 55) r hr (fun j hj => by have := A0_lt (z := s.heap.size) hj; omega) (xs (i + 1)) (xs (i + 2)) (xs (i + 3)) (xs (i + 4))) gL_law_L_believes rfl ⟨rfl, rfl⟩ nmL_believes ⟨Nat.le_of_ble_eq_true rfl, Nat.le_of_ble_eq_true rfl⟩ rfl hl.1 rfl (Nat.le_of_ble_eq_true rfl) ⟨by show cells + 1 ≤ 1063676; omega, by show slots + 6 ≤ 5905075; omega⟩ dL_law_1526 (fun H2 locs2 hA2 => ?_)
  refine lv_istore (lv' := (6, _) :: [(5, .int (nI i)), (0, .ref b), (1, .ref s.heap.size), (2, .ref (s.heap.size + 47)), (3, .ref (s.heap.size + 55)), (4, .ref (s.heap.size + 56))]) hx hb dL_law_1529 hl (by decide) rfl (fun ls hl => ?_)
  have h0 := lv_at hl 2 rfl
  have h5 := lv_at hl 1 rfl
  refine lv_aload_n hx hb dL_law_1531 rfl (lv_at hl 4 rfl) ?_
  refine law_arg (j := 1) S hXs hbl hA2.2.2.2.2.2 rfl (by omega) hLx h0 h5 dL_law_1532 dL_law_1533 dL_law_1535 dL_law_1536 dL_law_1537 ?_
  refine law_arg (j := 2) S hXs hbl hA2.2.2.2.2.2 rfl (by omega) hLx h0 h5 dL_law_1538 dL_law_1539 dL_law_1541 dL_law_1542 dL_law_1543 ?_
  refine law_arg (j := 3) S hXs hbl hA2.2.2.2.2.2 rfl (by omega) hLx h0 h5 dL_law_1544 dL_law_1545 dL_law_1547 dL_law_1548 dL_law_1549 ?_
  refine law_arg (j := 4) S hXs hbl hA2.2.2.2.2.2 rfl (by omega) hLx h0 h5 dL_law_1550 dL_law_1551 dL_law_1553 dL_law_1554 dL_law_1555 ?_
  refine law_M (As := [.int (xs (i + 1)), .int (xs (i + 2)), .int (xs (i + 3)), .int (xs (i + 4))]) (rest := []) S hz hG hX hA2 (fun B mc cp m1 m2 m3 m4 => lm_believes l G (qlD s.heap.size) B mc cp th f g H2 hI.2.1 m1 m2 m3 m4 (xs (i + 1)) (xs (i + 2)) (xs (i + 3)) (xs (i + 4))) gL_law_X11_believes rfl ⟨rfl, rfl⟩ nmX11_believes ⟨Nat.le_of_ble_eq_true rfl, Nat.le_of_ble_eq_true rfl⟩ rfl hl.1 rfl (Nat.le_of_ble_eq_true rfl) ⟨by show cells + 1 + 0 ≤ 1063676; omega, by show slots + 6 + 0 ≤ 5905075; omega⟩ dL_law_1556 (fun H3 locs3 va hB3 => ?_)
  refine lv_istore (lv' := (7, _) :: (6, _) :: [(5, .int (nI i)), (0, .ref b), (1, .ref s.heap.size), (2, .ref (s.heap.size + 47)), (3, .ref (s.heap.size + 55)), (4, .ref (s.heap.size + 56))]) hx hb dL_law_1559 hl (by decide) rfl (fun ls hl => ?_)
  exact law_tail (t := 1561) S hz hG hB3 (by decide) hI.2.1 (fun _ => hI.2.1) ⟨Nat.le_of_ble_eq_true rfl, Nat.le_of_ble_eq_true rfl⟩ ⟨by show cells + 1 + 0 ≤ 1063676; omega, by show slots + 6 + 0 ≤ 5905075; omega⟩ hl dL_law_1561 dL_law_1562 dL_law_1565 dL_law_1567 dL_law_1572 dL_law_1574 dL_law_1577 dL_law_1578 dL_law_1579 dL_law_1580 dL_law_1582 dL_law_1583 dL_law_1584 dL_law_1589 (by decide) (fun f2 g2 ls2 hW hl2 => kk _ f2 g2 H3 locs3 _ _ ls2 hW (by omega) (by omega) hl2)
set_option maxHeartbeats 1000000 in
set_option maxRecDepth 100000 in
theorem lc_misled (S : CallFix p m c cL_law 9 s args wsL_law RL) (hlf : l.stackTraces = false) (hz : G.2.2.1 = s.heap.size) (hG : GK G s.heap s) (hN : GN s) (hX : GX s) (hXs : va_X b Lx xs s s.heap) (hbl : b < s.heap.size) (hi : i + 5 < Lx) (hLx : Lx ≤ 3072) (hI : qLW G s th f g H locs) (hc : cells + 30 ≤ 1063676 ∧ slots + 2000 ≤ 5905075) (hl : lv_has ls 9 [(5, .int (nI i)), (0, .ref b), (1, .ref s.heap.size), (2, .ref (s.heap.size + 47)), (3, .ref (s.heap.size + 55)), (4, .ref (s.heap.size + 56))])   (kk : ∀ (th2 : Int32) (f2 : Nat → Nat → Int32) (g2 : Nat → Nat) (H2 : Heap) (locs2 : List Loc) (cells2 slots2 : Nat) (ls2 : Array Slot), qLW G s th2 f2 g2 H2 locs2 → cells2 ≤ cells + 21 → slots2 ≤ slots + 1660 → lv_has ls2 9 [(5, .int (nI i)), (0, .ref b), (1, .ref s.heap.size), (2, .ref (s.heap.size + 47)), (3, .ref (s.heap.size + 55)), (4, .ref (s.heap.size + 56))] → W p l e room_1 s m args below meth c H2 locs2 cells2 slots2 Q (F0 m 2103 ls2 [])) : W p l e room_1 s m args below meth c H locs cells slots Q (F0 m 1592 ls []) := by
  have hx := S.1
  have hb := S.2.1
  have h0 := lv_at hl 1 rfl
  have h5 := lv_at hl 0 rfl
  refine lv_aload_n hx hb dL_law_1592 rfl (lv_at hl 2 rfl) ?_
  refine law_arg (j := 1) S hXs hbl hI.2.2.2.2.2.2 rfl (by omega) hLx h0 h5 dL_law_1593 dL_law_1594 dL_law_1596 dL_law_1597 dL_law_1598 ?_
  refine lv_aload_n hx hb dL_law_1599 rfl (lv_at hl 4 rfl) ?_
  refine law_W (As := [.ref s.heap.size, .int (xs (i + 1)), .ref (s.heap.size + 55)]) (rest := []) S hz hG hN hI (fun r hr => c_L_misled l G hlf (A0 s.heap.size) f g H hI.1 (ra_0 (Nat.le_of_eq hz)) (s.heap.size + 55) r hr (fun j hj => by have := A0_lt (z := s.heap.size) hj; omega) (xs (i + 1))) gL_law_L_misled rfl ⟨rfl, rfl⟩ nmL_misled ⟨Nat.le_of_ble_eq_true rfl, Nat.le_of_ble_eq_true rfl⟩ rfl hl.1 rfl (Nat.le_of_ble_eq_true rfl) ⟨by show cells + 1 ≤ 1063676; omega, by show slots + 6 ≤ 5905075; omega⟩ dL_law_1600 (fun H2 locs2 hA2 => ?_)
  refine lv_istore (lv' := (6, _) :: [(5, .int (nI i)), (0, .ref b), (1, .ref s.heap.size), (2, .ref (s.heap.size + 47)), (3, .ref (s.heap.size + 55)), (4, .ref (s.heap.size + 56))]) hx hb dL_law_1603 hl (by decide) rfl (fun ls hl => ?_)
  have h0 := lv_at hl 2 rfl
  have h5 := lv_at hl 1 rfl
  refine lv_aload_n hx hb dL_law_1605 rfl (lv_at hl 4 rfl) ?_
  refine law_arg (j := 1) S hXs hbl hA2.2.2.2.2.2 rfl (by omega) hLx h0 h5 dL_law_1606 dL_law_1607 dL_law_1609 dL_law_1610 dL_law_1611 ?_
  refine law_M (As := [.int (xs (i + 1))]) (rest := []) S hz hG hX hA2 (fun B mc cp m1 m2 m3 m4 => lm_misled l G (qlD s.heap.size) B mc cp th f g H2 hI.2.1 m1 m2 m3 m4 (xs (i + 1))) gL_law_X11_misled rfl ⟨rfl, rfl⟩ nmX11_misled ⟨Nat.le_of_ble_eq_true rfl, Nat.le_of_ble_eq_true rfl⟩ rfl hl.1 rfl (Nat.le_of_ble_eq_true rfl) ⟨by show cells + 1 + 0 ≤ 1063676; omega, by show slots + 6 + 0 ≤ 5905075; omega⟩ dL_law_1612 (fun H3 locs3 va hB3 => ?_)
  refine lv_istore (lv' := (7, _) :: (6, _) :: [(5, .int (nI i)), (0, .ref b), (1, .ref s.heap.size), (2, .ref (s.heap.size + 47)), (3, .ref (s.heap.size + 55)), (4, .ref (s.heap.size + 56))]) hx hb dL_law_1615 hl (by decide) rfl (fun ls hl => ?_)
  exact law_tail (t := 1617) S hz hG hB3 (by decide) hI.2.1 (fun _ => hI.2.1) ⟨Nat.le_of_ble_eq_true rfl, Nat.le_of_ble_eq_true rfl⟩ ⟨by show cells + 1 + 0 ≤ 1063676; omega, by show slots + 6 + 0 ≤ 5905075; omega⟩ hl dL_law_1617 dL_law_1618 dL_law_1621 dL_law_1623 dL_law_1628 dL_law_1630 dL_law_1633 dL_law_1634 dL_law_1635 dL_law_1636 dL_law_1638 dL_law_1639 dL_law_1640 dL_law_1645 (by decide) (fun f2 g2 ls2 hW hl2 => kk _ f2 g2 H3 locs3 _ _ ls2 hW (by omega) (by omega) hl2)
set_option maxHeartbeats 1000000 in
set_option maxRecDepth 100000 in
theorem lc_many (S : CallFix p m c cL_law 9 s args wsL_law RL) (hlf : l.stackTraces = false) (hz : G.2.2.1 = s.heap.size) (hG : GK G s.heap s) (hN : GN s) (hX : GX s) (hXs : va_X b Lx xs s s.heap) (hbl : b < s.heap.size) (hi : i + 5 < Lx) (hLx : Lx ≤ 3072) (hI : qLW G s th f g H locs) (hc : cells + 30 ≤ 1063676 ∧ slots + 2000 ≤ 5905075) (hl : lv_has ls 9 [(5, .int (nI i)), (0, .ref b), (1, .ref s.heap.size), (2, .ref (s.heap.size + 47)), (3, .ref (s.heap.size + 55)), (4, .ref (s.heap.size + 56))])   (kk : ∀ (th2 : Int32) (f2 : Nat → Nat → Int32) (g2 : Nat → Nat) (H2 : Heap) (locs2 : List Loc) (cells2 slots2 : Nat) (ls2 : Array Slot), qLW G s th2 f2 g2 H2 locs2 → cells2 ≤ cells + 21 → slots2 ≤ slots + 1660 → lv_has ls2 9 [(5, .int (nI i)), (0, .ref b), (1, .ref s.heap.size), (2, .ref (s.heap.size + 47)), (3, .ref (s.heap.size + 55)), (4, .ref (s.heap.size + 56))] → W p l e room_1 s m args below meth c H2 locs2 cells2 slots2 Q (F0 m 2103 ls2 [])) : W p l e room_1 s m args below meth c H locs cells slots Q (F0 m 1648 ls []) := by
  have hx := S.1
  have hb := S.2.1
  have h0 := lv_at hl 1 rfl
  have h5 := lv_at hl 0 rfl
  refine lv_aload_n hx hb dL_law_1648 rfl (lv_at hl 2 rfl) ?_
  refine law_arg (j := 1) S hXs hbl hI.2.2.2.2.2.2 rfl (by omega) hLx h0 h5 dL_law_1649 dL_law_1650 dL_law_1652 dL_law_1653 dL_law_1654 ?_
  refine lv_aload_n hx hb dL_law_1655 rfl (lv_at hl 4 rfl) ?_
  refine law_W (As := [.ref s.heap.size, .int (xs (i + 1)), .ref (s.heap.size + 55)]) (rest := []) S hz hG hN hI (fun r hr => c_L_many l G hlf (A0 s.heap.size) f g H hI.1 (ra_0 (Nat.le_of_eq hz)) (s.heap.size + 55) r hr (fun j hj => by have := A0_lt (z := s.heap.size) hj; omega) (xs (i + 1))) gL_law_L_many rfl ⟨rfl, rfl⟩ nmL_many ⟨Nat.le_of_ble_eq_true rfl, Nat.le_of_ble_eq_true rfl⟩ rfl hl.1 rfl (Nat.le_of_ble_eq_true rfl) ⟨by show cells + 1 ≤ 1063676; omega, by show slots + 6 ≤ 5905075; omega⟩ dL_law_1656 (fun H2 locs2 hA2 => ?_)
  refine lv_istore (lv' := (6, _) :: [(5, .int (nI i)), (0, .ref b), (1, .ref s.heap.size), (2, .ref (s.heap.size + 47)), (3, .ref (s.heap.size + 55)), (4, .ref (s.heap.size + 56))]) hx hb dL_law_1659 hl (by decide) rfl (fun ls hl => ?_)
  have h0 := lv_at hl 2 rfl
  have h5 := lv_at hl 1 rfl
  refine lv_aload_n hx hb dL_law_1661 rfl (lv_at hl 4 rfl) ?_
  refine law_arg (j := 1) S hXs hbl hA2.2.2.2.2.2 rfl (by omega) hLx h0 h5 dL_law_1662 dL_law_1663 dL_law_1665 dL_law_1666 dL_law_1667 ?_
  refine law_M (As := [.int (xs (i + 1))]) (rest := []) S hz hG hX hA2 (fun B mc cp m1 m2 m3 m4 => lm_many l G (qlD s.heap.size) B mc cp th f g H2 hI.2.1 m1 m2 m3 m4 (xs (i + 1))) gL_law_X11_many rfl ⟨rfl, rfl⟩ nmX11_many ⟨Nat.le_of_ble_eq_true rfl, Nat.le_of_ble_eq_true rfl⟩ rfl hl.1 rfl (Nat.le_of_ble_eq_true rfl) ⟨by show cells + 1 + 1 ≤ 1063676; omega, by show slots + 6 + 9 ≤ 5905075; omega⟩ dL_law_1668 (fun H3 locs3 va hB3 => ?_)
  refine lv_istore (lv' := (7, _) :: (6, _) :: [(5, .int (nI i)), (0, .ref b), (1, .ref s.heap.size), (2, .ref (s.heap.size + 47)), (3, .ref (s.heap.size + 55)), (4, .ref (s.heap.size + 56))]) hx hb dL_law_1671 hl (by decide) rfl (fun ls hl => ?_)
  exact law_tail (t := 1673) S hz hG hB3 (by decide) hI.2.1 (fun _ => hI.2.1) ⟨Nat.le_of_ble_eq_true rfl, Nat.le_of_ble_eq_true rfl⟩ ⟨by show cells + 1 + 1 ≤ 1063676; omega, by show slots + 6 + 9 ≤ 5905075; omega⟩ hl dL_law_1673 dL_law_1674 dL_law_1677 dL_law_1679 dL_law_1684 dL_law_1686 dL_law_1689 dL_law_1690 dL_law_1691 dL_law_1692 dL_law_1694 dL_law_1695 dL_law_1696 dL_law_1701 (by decide) (fun f2 g2 ls2 hW hl2 => kk _ f2 g2 H3 locs3 _ _ ls2 hW (by omega) (by omega) hl2)
set_option maxHeartbeats 1000000 in
set_option maxRecDepth 100000 in
theorem lc_permit (S : CallFix p m c cL_law 9 s args wsL_law RL) (hlf : l.stackTraces = false) (hz : G.2.2.1 = s.heap.size) (hG : GK G s.heap s) (hN : GN s) (hX : GX s) (hXs : va_X b Lx xs s s.heap) (hbl : b < s.heap.size) (hi : i + 5 < Lx) (hLx : Lx ≤ 3072) (hI : qLW G s th f g H locs) (hc : cells + 30 ≤ 1063676 ∧ slots + 2000 ≤ 5905075) (hl : lv_has ls 9 [(5, .int (nI i)), (0, .ref b), (1, .ref s.heap.size), (2, .ref (s.heap.size + 47)), (3, .ref (s.heap.size + 55)), (4, .ref (s.heap.size + 56))])   (kk : ∀ (th2 : Int32) (f2 : Nat → Nat → Int32) (g2 : Nat → Nat) (H2 : Heap) (locs2 : List Loc) (cells2 slots2 : Nat) (ls2 : Array Slot), qLW G s th2 f2 g2 H2 locs2 → cells2 ≤ cells + 21 → slots2 ≤ slots + 1660 → lv_has ls2 9 [(5, .int (nI i)), (0, .ref b), (1, .ref s.heap.size), (2, .ref (s.heap.size + 47)), (3, .ref (s.heap.size + 55)), (4, .ref (s.heap.size + 56))] → W p l e room_1 s m args below meth c H2 locs2 cells2 slots2 Q (F0 m 2103 ls2 [])) : W p l e room_1 s m args below meth c H locs cells slots Q (F0 m 1781 ls []) := by
  have hx := S.1
  have hb := S.2.1
  have h0 := lv_at hl 1 rfl
  have h5 := lv_at hl 0 rfl
  refine lv_aload_n hx hb dL_law_1781 rfl (lv_at hl 2 rfl) ?_
  refine law_arg (j := 1) S hXs hbl hI.2.2.2.2.2.2 rfl (by omega) hLx h0 h5 dL_law_1782 dL_law_1783 dL_law_1785 dL_law_1786 dL_law_1787 ?_
  refine law_arg (j := 2) S hXs hbl hI.2.2.2.2.2.2 rfl (by omega) hLx h0 h5 dL_law_1788 dL_law_1789 dL_law_1791 dL_law_1792 dL_law_1793 ?_
  refine law_arg (j := 3) S hXs hbl hI.2.2.2.2.2.2 rfl (by omega) hLx h0 h5 dL_law_1794 dL_law_1795 dL_law_1797 dL_law_1798 dL_law_1799 ?_
  refine law_arg (j := 4) S hXs hbl hI.2.2.2.2.2.2 rfl (by omega) hLx h0 h5 dL_law_1800 dL_law_1801 dL_law_1803 dL_law_1804 dL_law_1805 ?_
  refine law_arg (j := 5) S hXs hbl hI.2.2.2.2.2.2 rfl (by omega) hLx h0 h5 dL_law_1806 dL_law_1807 dL_law_1809 dL_law_1810 dL_law_1811 ?_
  refine lv_aload_n hx hb dL_law_1812 rfl (lv_at hl 4 rfl) ?_
  refine law_W (As := [.ref s.heap.size, .int (xs (i + 1)), .int (xs (i + 2)), .int (xs (i + 3)), .int (xs (i + 4)), .int (xs (i + 5)), .ref (s.heap.size + 55)]) (rest := []) S hz hG hN hI (fun r hr => c_L_permit l G hlf (A0 s.heap.size) f g H hI.1 (ra_0 (Nat.le_of_eq hz)) (s.heap.size + 55) r hr (fun j hj => by have := A0_lt (z := s.heap.size) hj; omega) (xs (i + 1)) (xs (i + 2)) (xs (i + 3)) (xs (i + 4)) (xs (i + 5))) gL_law_L_permit rfl ⟨rfl, rfl⟩ nmL_permit ⟨Nat.le_of_ble_eq_true rfl, Nat.le_of_ble_eq_true rfl⟩ rfl hl.1 rfl (Nat.le_of_ble_eq_true rfl) ⟨by show cells + 1 ≤ 1063676; omega, by show slots + 6 ≤ 5905075; omega⟩ dL_law_1813 (fun H2 locs2 hA2 => ?_)
  refine lv_istore (lv' := (6, _) :: [(5, .int (nI i)), (0, .ref b), (1, .ref s.heap.size), (2, .ref (s.heap.size + 47)), (3, .ref (s.heap.size + 55)), (4, .ref (s.heap.size + 56))]) hx hb dL_law_1816 hl (by decide) rfl (fun ls hl => ?_)
  have h0 := lv_at hl 2 rfl
  have h5 := lv_at hl 1 rfl
  refine lv_aload_n hx hb dL_law_1818 rfl (lv_at hl 4 rfl) ?_
  refine law_arg (j := 1) S hXs hbl hA2.2.2.2.2.2 rfl (by omega) hLx h0 h5 dL_law_1819 dL_law_1820 dL_law_1822 dL_law_1823 dL_law_1824 ?_
  refine law_arg (j := 2) S hXs hbl hA2.2.2.2.2.2 rfl (by omega) hLx h0 h5 dL_law_1825 dL_law_1826 dL_law_1828 dL_law_1829 dL_law_1830 ?_
  refine law_arg (j := 3) S hXs hbl hA2.2.2.2.2.2 rfl (by omega) hLx h0 h5 dL_law_1831 dL_law_1832 dL_law_1834 dL_law_1835 dL_law_1836 ?_
  refine law_arg (j := 4) S hXs hbl hA2.2.2.2.2.2 rfl (by omega) hLx h0 h5 dL_law_1837 dL_law_1838 dL_law_1840 dL_law_1841 dL_law_1842 ?_
  refine law_arg (j := 5) S hXs hbl hA2.2.2.2.2.2 rfl (by omega) hLx h0 h5 dL_law_1843 dL_law_1844 dL_law_1846 dL_law_1847 dL_law_1848 ?_
  refine law_M (As := [.int (xs (i + 1)), .int (xs (i + 2)), .int (xs (i + 3)), .int (xs (i + 4)), .int (xs (i + 5))]) (rest := []) S hz hG hX hA2 (fun B mc cp m1 m2 m3 m4 => lm_permit l G (qlD s.heap.size) B mc cp th f g H2 hI.2.1 m1 m2 m3 m4 (xs (i + 1)) (xs (i + 2)) (xs (i + 3)) (xs (i + 4)) (xs (i + 5))) gL_law_X11_permit rfl ⟨rfl, rfl⟩ nmX11_permit ⟨Nat.le_of_ble_eq_true rfl, Nat.le_of_ble_eq_true rfl⟩ rfl hl.1 rfl (Nat.le_of_ble_eq_true rfl) ⟨by show cells + 1 + 6 ≤ 1063676; omega, by show slots + 6 + 1609 ≤ 5905075; omega⟩ dL_law_1849 (fun H3 locs3 va hB3 => ?_)
  refine lv_istore (lv' := (7, _) :: (6, _) :: [(5, .int (nI i)), (0, .ref b), (1, .ref s.heap.size), (2, .ref (s.heap.size + 47)), (3, .ref (s.heap.size + 55)), (4, .ref (s.heap.size + 56))]) hx hb dL_law_1852 hl (by decide) rfl (fun ls hl => ?_)
  exact law_tail (t := 1854) S hz hG hB3 (by decide) hI.2.1 (fun _ => hI.2.1) ⟨Nat.le_of_ble_eq_true rfl, Nat.le_of_ble_eq_true rfl⟩ ⟨by show cells + 1 + 6 ≤ 1063676; omega, by show slots + 6 + 1609 ≤ 5905075; omega⟩ hl dL_law_1854 dL_law_1855 dL_law_1858 dL_law_1860 dL_law_1865 dL_law_1867 dL_law_1870 dL_law_1871 dL_law_1872 dL_law_1873 dL_law_1875 dL_law_1876 dL_law_1877 dL_law_1882 (by decide) (fun f2 g2 ls2 hW hl2 => kk _ f2 g2 H3 locs3 _ _ ls2 hW (by omega) (by omega) hl2)
set_option maxHeartbeats 1000000 in
set_option maxRecDepth 100000 in
theorem lc_highest (S : CallFix p m c cL_law 9 s args wsL_law RL) (hlf : l.stackTraces = false) (hz : G.2.2.1 = s.heap.size) (hG : GK G s.heap s) (hN : GN s) (hX : GX s) (hXs : va_X b Lx xs s s.heap) (hbl : b < s.heap.size) (hi : i + 5 < Lx) (hLx : Lx ≤ 3072) (hI : qLW G s th f g H locs) (hc : cells + 30 ≤ 1063676 ∧ slots + 2000 ≤ 5905075) (hl : lv_has ls 9 [(5, .int (nI i)), (0, .ref b), (1, .ref s.heap.size), (2, .ref (s.heap.size + 47)), (3, .ref (s.heap.size + 55)), (4, .ref (s.heap.size + 56))])   (kk : ∀ (th2 : Int32) (f2 : Nat → Nat → Int32) (g2 : Nat → Nat) (H2 : Heap) (locs2 : List Loc) (cells2 slots2 : Nat) (ls2 : Array Slot), qLW G s th2 f2 g2 H2 locs2 → cells2 ≤ cells + 21 → slots2 ≤ slots + 1660 → lv_has ls2 9 [(5, .int (nI i)), (0, .ref b), (1, .ref s.heap.size), (2, .ref (s.heap.size + 47)), (3, .ref (s.heap.size + 55)), (4, .ref (s.heap.size + 56))] → W p l e room_1 s m args below meth c H2 locs2 cells2 slots2 Q (F0 m 2103 ls2 [])) : W p l e room_1 s m args below meth c H locs cells slots Q (F0 m 1885 ls []) := by
  have hx := S.1
  have hb := S.2.1
  have h0 := lv_at hl 1 rfl
  have h5 := lv_at hl 0 rfl
  refine lv_aload_n hx hb dL_law_1885 rfl (lv_at hl 2 rfl) ?_
  refine law_arg (j := 1) S hXs hbl hI.2.2.2.2.2.2 rfl (by omega) hLx h0 h5 dL_law_1886 dL_law_1887 dL_law_1889 dL_law_1890 dL_law_1891 ?_
  refine law_arg (j := 2) S hXs hbl hI.2.2.2.2.2.2 rfl (by omega) hLx h0 h5 dL_law_1892 dL_law_1893 dL_law_1895 dL_law_1896 dL_law_1897 ?_
  refine law_arg (j := 3) S hXs hbl hI.2.2.2.2.2.2 rfl (by omega) hLx h0 h5 dL_law_1898 dL_law_1899 dL_law_1901 dL_law_1902 dL_law_1903 ?_
  refine law_arg (j := 4) S hXs hbl hI.2.2.2.2.2.2 rfl (by omega) hLx h0 h5 dL_law_1904 dL_law_1905 dL_law_1907 dL_law_1908 dL_law_1909 ?_
  refine lv_aload_n hx hb dL_law_1910 rfl (lv_at hl 4 rfl) ?_
  refine law_W (As := [.ref s.heap.size, .int (xs (i + 1)), .int (xs (i + 2)), .int (xs (i + 3)), .int (xs (i + 4)), .ref (s.heap.size + 55)]) (rest := []) S hz hG hN hI (fun r hr => c_L_highest l G hlf (A0 s.heap.size) f g H hI.1 (ra_0 (Nat.le_of_eq hz)) (s.heap.size + 55) r hr (fun j hj => by have := A0_lt (z := s.heap.size) hj; omega) (xs (i + 1)) (xs (i + 2)) (xs (i + 3)) (xs (i + 4))) gL_law_L_highest rfl ⟨rfl, rfl⟩ nmL_highest ⟨Nat.le_of_ble_eq_true rfl, Nat.le_of_ble_eq_true rfl⟩ rfl hl.1 rfl (Nat.le_of_ble_eq_true rfl) ⟨by show cells + 1 ≤ 1063676; omega, by show slots + 6 ≤ 5905075; omega⟩ dL_law_1911 (fun H2 locs2 hA2 => ?_)
  refine lv_istore (lv' := (6, _) :: [(5, .int (nI i)), (0, .ref b), (1, .ref s.heap.size), (2, .ref (s.heap.size + 47)), (3, .ref (s.heap.size + 55)), (4, .ref (s.heap.size + 56))]) hx hb dL_law_1914 hl (by decide) rfl (fun ls hl => ?_)
  have h0 := lv_at hl 2 rfl
  have h5 := lv_at hl 1 rfl
  refine lv_aload_n hx hb dL_law_1916 rfl (lv_at hl 4 rfl) ?_
  refine law_arg (j := 1) S hXs hbl hA2.2.2.2.2.2 rfl (by omega) hLx h0 h5 dL_law_1917 dL_law_1918 dL_law_1920 dL_law_1921 dL_law_1922 ?_
  refine law_arg (j := 2) S hXs hbl hA2.2.2.2.2.2 rfl (by omega) hLx h0 h5 dL_law_1923 dL_law_1924 dL_law_1926 dL_law_1927 dL_law_1928 ?_
  refine law_arg (j := 3) S hXs hbl hA2.2.2.2.2.2 rfl (by omega) hLx h0 h5 dL_law_1929 dL_law_1930 dL_law_1932 dL_law_1933 dL_law_1934 ?_
  refine law_arg (j := 4) S hXs hbl hA2.2.2.2.2.2 rfl (by omega) hLx h0 h5 dL_law_1935 dL_law_1936 dL_law_1938 dL_law_1939 dL_law_1940 ?_
  refine law_M (As := [.int (xs (i + 1)), .int (xs (i + 2)), .int (xs (i + 3)), .int (xs (i + 4))]) (rest := []) S hz hG hX hA2 (fun B mc cp m1 m2 m3 m4 => lm_highest l G (qlD s.heap.size) B mc cp th f g H2 hI.2.1 m1 m2 m3 m4 (xs (i + 1)) (xs (i + 2)) (xs (i + 3)) (xs (i + 4))) gL_law_X11_highest rfl ⟨rfl, rfl⟩ nmX11_highest ⟨Nat.le_of_ble_eq_true rfl, Nat.le_of_ble_eq_true rfl⟩ rfl hl.1 rfl (Nat.le_of_ble_eq_true rfl) ⟨by show cells + 1 + 15 ≤ 1063676; omega, by show slots + 6 + 1654 ≤ 5905075; omega⟩ dL_law_1941 (fun H3 locs3 va hB3 => ?_)
  refine lv_istore (lv' := (7, _) :: (6, _) :: [(5, .int (nI i)), (0, .ref b), (1, .ref s.heap.size), (2, .ref (s.heap.size + 47)), (3, .ref (s.heap.size + 55)), (4, .ref (s.heap.size + 56))]) hx hb dL_law_1944 hl (by decide) rfl (fun ls hl => ?_)
  exact law_tail (t := 1946) S hz hG hB3 (by decide) hI.2.1 (fun _ => hI.2.1) ⟨Nat.le_of_ble_eq_true rfl, Nat.le_of_ble_eq_true rfl⟩ ⟨by show cells + 1 + 15 ≤ 1063676; omega, by show slots + 6 + 1654 ≤ 5905075; omega⟩ hl dL_law_1946 dL_law_1947 dL_law_1950 dL_law_1952 dL_law_1957 dL_law_1959 dL_law_1962 dL_law_1963 dL_law_1964 dL_law_1965 dL_law_1967 dL_law_1968 dL_law_1969 dL_law_1974 (by decide) (fun f2 g2 ls2 hW hl2 => kk _ f2 g2 H3 locs3 _ _ ls2 hW (by omega) (by omega) hl2)
set_option maxHeartbeats 1000000 in
set_option maxRecDepth 100000 in
theorem lc_unsafeOn (S : CallFix p m c cL_law 9 s args wsL_law RL) (hlf : l.stackTraces = false) (hz : G.2.2.1 = s.heap.size) (hG : GK G s.heap s) (hN : GN s) (hX : GX s) (hXs : va_X b Lx xs s s.heap) (hbl : b < s.heap.size) (hi : i + 5 < Lx) (hLx : Lx ≤ 3072) (hI : qLW G s th f g H locs) (hc : cells + 30 ≤ 1063676 ∧ slots + 2000 ≤ 5905075) (hl : lv_has ls 9 [(5, .int (nI i)), (0, .ref b), (1, .ref s.heap.size), (2, .ref (s.heap.size + 47)), (3, .ref (s.heap.size + 55)), (4, .ref (s.heap.size + 56))])   (kk : ∀ (th2 : Int32) (f2 : Nat → Nat → Int32) (g2 : Nat → Nat) (H2 : Heap) (locs2 : List Loc) (cells2 slots2 : Nat) (ls2 : Array Slot), qLW G s th2 f2 g2 H2 locs2 → cells2 ≤ cells + 21 → slots2 ≤ slots + 1660 → lv_has ls2 9 [(5, .int (nI i)), (0, .ref b), (1, .ref s.heap.size), (2, .ref (s.heap.size + 47)), (3, .ref (s.heap.size + 55)), (4, .ref (s.heap.size + 56))] → W p l e room_1 s m args below meth c H2 locs2 cells2 slots2 Q (F0 m 2103 ls2 [])) : W p l e room_1 s m args below meth c H locs cells slots Q (F0 m 1977 ls []) := by
  have hx := S.1
  have hb := S.2.1
  have h0 := lv_at hl 1 rfl
  have h5 := lv_at hl 0 rfl
  refine lv_aload_n hx hb dL_law_1977 rfl (lv_at hl 2 rfl) ?_
  refine law_arg (j := 1) S hXs hbl hI.2.2.2.2.2.2 rfl (by omega) hLx h0 h5 dL_law_1978 dL_law_1979 dL_law_1981 dL_law_1982 dL_law_1983 ?_
  refine lv_aload_n hx hb dL_law_1984 rfl (lv_at hl 4 rfl) ?_
  refine law_W (As := [.ref s.heap.size, .int (xs (i + 1)), .ref (s.heap.size + 55)]) (rest := []) S hz hG hN hI (fun r hr => c_L_unsafeOn l G hlf (A0 s.heap.size) f g H hI.1 (ra_0 (Nat.le_of_eq hz)) (s.heap.size + 55) r hr (fun j hj => by have := A0_lt (z := s.heap.size) hj; omega) (xs (i + 1)) hI.2.1.1.1) gL_law_L_unsafeOn rfl ⟨rfl, rfl⟩ nmL_unsafeOn ⟨Nat.le_of_ble_eq_true rfl, Nat.le_of_ble_eq_true rfl⟩ rfl hl.1 rfl (Nat.le_of_ble_eq_true rfl) ⟨by show cells + 1 ≤ 1063676; omega, by show slots + 6 ≤ 5905075; omega⟩ dL_law_1985 (fun H2 locs2 hA2 => ?_)
  refine lv_istore (lv' := (6, _) :: [(5, .int (nI i)), (0, .ref b), (1, .ref s.heap.size), (2, .ref (s.heap.size + 47)), (3, .ref (s.heap.size + 55)), (4, .ref (s.heap.size + 56))]) hx hb dL_law_1988 hl (by decide) rfl (fun ls hl => ?_)
  have h0 := lv_at hl 2 rfl
  have h5 := lv_at hl 1 rfl
  refine lv_aload_n hx hb dL_law_1990 rfl (lv_at hl 4 rfl) ?_
  refine law_arg (j := 1) S hXs hbl hA2.2.2.2.2.2 rfl (by omega) hLx h0 h5 dL_law_1991 dL_law_1992 dL_law_1994 dL_law_1995 dL_law_1996 ?_
  refine law_M (As := [.int (xs (i + 1))]) (rest := []) S hz hG hX hA2 (fun B mc cp m1 m2 m3 m4 => lm_unsafeOn l G (qlD s.heap.size) B mc cp th f g H2 hI.2.1 m1 m2 m3 m4 (xs (i + 1))) gL_law_X11_unsafeOn rfl ⟨rfl, rfl⟩ nmX11_unsafeOn ⟨Nat.le_of_ble_eq_true rfl, Nat.le_of_ble_eq_true rfl⟩ rfl hl.1 rfl (Nat.le_of_ble_eq_true rfl) ⟨by show cells + 1 + 0 ≤ 1063676; omega, by show slots + 6 + 0 ≤ 5905075; omega⟩ dL_law_1997 (fun H3 locs3 va hB3 => ?_)
  refine lv_istore (lv' := (7, _) :: (6, _) :: [(5, .int (nI i)), (0, .ref b), (1, .ref s.heap.size), (2, .ref (s.heap.size + 47)), (3, .ref (s.heap.size + 55)), (4, .ref (s.heap.size + 56))]) hx hb dL_law_2000 hl (by decide) rfl (fun ls hl => ?_)
  exact law_tail (t := 2002) S hz hG hB3 (by decide) hI.2.1 (fun _ => hI.2.1) ⟨Nat.le_of_ble_eq_true rfl, Nat.le_of_ble_eq_true rfl⟩ ⟨by show cells + 1 + 0 ≤ 1063676; omega, by show slots + 6 + 0 ≤ 5905075; omega⟩ hl dL_law_2002 dL_law_2003 dL_law_2006 dL_law_2008 dL_law_2013 dL_law_2015 dL_law_2018 dL_law_2019 dL_law_2020 dL_law_2021 dL_law_2023 dL_law_2024 dL_law_2025 dL_law_2030 (by decide) (fun f2 g2 ls2 hW hl2 => kk _ f2 g2 H3 locs3 _ _ ls2 hW (by omega) (by omega) hl2)
set_option maxHeartbeats 1000000 in
set_option maxRecDepth 100000 in
theorem lc_raiseFor (S : CallFix p m c cL_law 9 s args wsL_law RL) (hlf : l.stackTraces = false) (hz : G.2.2.1 = s.heap.size) (hG : GK G s.heap s) (hN : GN s) (hX : GX s) (hXs : va_X b Lx xs s s.heap) (hbl : b < s.heap.size) (hi : i + 5 < Lx) (hLx : Lx ≤ 3072) (hI : qLW G s th f g H locs) (hc : cells + 30 ≤ 1063676 ∧ slots + 2000 ≤ 5905075) (hl : lv_has ls 9 [(5, .int (nI i)), (0, .ref b), (1, .ref s.heap.size), (2, .ref (s.heap.size + 47)), (3, .ref (s.heap.size + 55)), (4, .ref (s.heap.size + 56))])   (kk : ∀ (th2 : Int32) (f2 : Nat → Nat → Int32) (g2 : Nat → Nat) (H2 : Heap) (locs2 : List Loc) (cells2 slots2 : Nat) (ls2 : Array Slot), qLW G s th2 f2 g2 H2 locs2 → cells2 ≤ cells + 21 → slots2 ≤ slots + 1660 → lv_has ls2 9 [(5, .int (nI i)), (0, .ref b), (1, .ref s.heap.size), (2, .ref (s.heap.size + 47)), (3, .ref (s.heap.size + 55)), (4, .ref (s.heap.size + 56))] → W p l e room_1 s m args below meth c H2 locs2 cells2 slots2 Q (F0 m 2103 ls2 [])) : W p l e room_1 s m args below meth c H locs cells slots Q (F0 m 2033 ls []) := by
  have hx := S.1
  have hb := S.2.1
  have h0 := lv_at hl 1 rfl
  have h5 := lv_at hl 0 rfl
  refine lv_aload_n hx hb dL_law_2033 rfl (lv_at hl 2 rfl) ?_
  refine law_arg (j := 1) S hXs hbl hI.2.2.2.2.2.2 rfl (by omega) hLx h0 h5 dL_law_2034 dL_law_2035 dL_law_2037 dL_law_2038 dL_law_2039 ?_
  refine lv_aload_n hx hb dL_law_2040 rfl (lv_at hl 4 rfl) ?_
  refine law_W (As := [.ref s.heap.size, .int (xs (i + 1)), .ref (s.heap.size + 55)]) (rest := []) S hz hG hN hI (fun r hr => c_L_raiseFor l G hlf (A0 s.heap.size) f g H hI.1 (ra_0 (Nat.le_of_eq hz)) (s.heap.size + 55) r hr (fun j hj => by have := A0_lt (z := s.heap.size) hj; omega) (xs (i + 1)) hI.2.1.1.1) gL_law_L_raiseFor rfl ⟨rfl, rfl⟩ nmL_raiseFor ⟨Nat.le_of_ble_eq_true rfl, Nat.le_of_ble_eq_true rfl⟩ rfl hl.1 rfl (Nat.le_of_ble_eq_true rfl) ⟨by show cells + 1 ≤ 1063676; omega, by show slots + 6 ≤ 5905075; omega⟩ dL_law_2041 (fun H2 locs2 hA2 => ?_)
  refine lv_istore (lv' := (6, _) :: [(5, .int (nI i)), (0, .ref b), (1, .ref s.heap.size), (2, .ref (s.heap.size + 47)), (3, .ref (s.heap.size + 55)), (4, .ref (s.heap.size + 56))]) hx hb dL_law_2044 hl (by decide) rfl (fun ls hl => ?_)
  have h0 := lv_at hl 2 rfl
  have h5 := lv_at hl 1 rfl
  refine lv_aload_n hx hb dL_law_2046 rfl (lv_at hl 4 rfl) ?_
  refine law_arg (j := 1) S hXs hbl hA2.2.2.2.2.2 rfl (by omega) hLx h0 h5 dL_law_2047 dL_law_2048 dL_law_2050 dL_law_2051 dL_law_2052 ?_
  refine law_M (As := [.int (xs (i + 1))]) (rest := []) S hz hG hX hA2 (fun B mc cp m1 m2 m3 m4 => lm_raiseFor l G (qlD s.heap.size) B mc cp th f g H2 hI.2.1 m1 m2 m3 m4 (xs (i + 1))) gL_law_X11_raiseFor rfl ⟨rfl, rfl⟩ nmX11_raiseFor ⟨Nat.le_of_ble_eq_true rfl, Nat.le_of_ble_eq_true rfl⟩ rfl hl.1 rfl (Nat.le_of_ble_eq_true rfl) ⟨by show cells + 1 + 0 ≤ 1063676; omega, by show slots + 6 + 0 ≤ 5905075; omega⟩ dL_law_2053 (fun H3 locs3 va hB3 => ?_)
  refine lv_istore (lv' := (7, _) :: (6, _) :: [(5, .int (nI i)), (0, .ref b), (1, .ref s.heap.size), (2, .ref (s.heap.size + 47)), (3, .ref (s.heap.size + 55)), (4, .ref (s.heap.size + 56))]) hx hb dL_law_2056 hl (by decide) rfl (fun ls hl => ?_)
  exact law_tail (t := 2058) S hz hG hB3 (by decide) hI.2.1 (fun _ => hI.2.1) ⟨Nat.le_of_ble_eq_true rfl, Nat.le_of_ble_eq_true rfl⟩ ⟨by show cells + 1 + 0 ≤ 1063676; omega, by show slots + 6 + 0 ≤ 5905075; omega⟩ hl dL_law_2058 dL_law_2059 dL_law_2062 dL_law_2064 dL_law_2069 dL_law_2071 dL_law_2074 dL_law_2075 dL_law_2076 dL_law_2077 dL_law_2079 dL_law_2080 dL_law_2081 dL_law_2086 (by decide) (fun f2 g2 ls2 hW hl2 => kk _ f2 g2 H3 locs3 _ _ ls2 hW (by omega) (by omega) hl2)
end QCA
