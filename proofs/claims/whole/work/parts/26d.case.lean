/-! the law: the mean, the digest -/
section QCA
variable {p : Program} {l : Launch} {e : Env} {s : State} {m : MethodId} {args : Array Value} {below : List Frame} {meth : Method} {c : Code} {H : Heap} {locs : List Loc} {cells slots : Nat} {Q : State → Prop} {G : GT} {f : Nat → Nat → Int32} {g : Nat → Nat} {th : Int32} {b Lx i : Nat} {xs : Nat → Int32} {ls : Array Slot}
set_option maxHeartbeats 1000000 in
set_option maxRecDepth 100000 in
theorem lc_meanDemanded (S : CallFix p m c cL_law 9 s args wsL_law RL) (hlf : l.stackTraces = false) (hz : G.2.2.1 = s.heap.size) (hG : GK G s.heap s) (hN : GN s) (hX : GX s) (hXs : va_X b Lx xs s s.heap) (hbl : b < s.heap.size) (hi : i + 5 < Lx) (hLx : Lx ≤ 3072) (hI : qLW G s th f g H locs) (hc : cells + 30 ≤ 1063676 ∧ slots + 2000 ≤ 5905075) (hl : lv_has ls 9 [(5, .int (nI i)), (0, .ref b), (1, .ref s.heap.size), (2, .ref (s.heap.size + 47)), (3, .ref (s.heap.size + 55)), (4, .ref (s.heap.size + 56))])   (kk : ∀ (th2 : Int32) (f2 : Nat → Nat → Int32) (g2 : Nat → Nat) (H2 : Heap) (locs2 : List Loc) (cells2 slots2 : Nat) (ls2 : Array Slot), qLW G s th2 f2 g2 H2 locs2 → cells2 ≤ cells + 21 → slots2 ≤ slots + 1660 → lv_has ls2 9 [(5, .int (nI i)), (0, .ref b), (1, .ref s.heap.size), (2, .ref (s.heap.size + 47)), (3, .ref (s.heap.size + 55)), (4, .ref (s.heap.size + 56))] → W p l e room_1 s m args below meth c H2 locs2 cells2 slots2 Q (F0 m 2103 ls2 [])) : W p l e room_1 s m args below meth c H locs cells slots Q (F0 m 1704 ls []) := by
  have hx := S.1
  have hb := S.2.1
  have h0 := lv_at hl 1 rfl
  have h5 := lv_at hl 0 rfl
  refine lv_aload_n hx hb dL_law_1704 rfl (lv_at hl 2 rfl) ?_
  refine law_arg (j := 1) S hXs hbl hI.2.2.2.2.2.2 rfl (by omega) hLx h0 h5 dL_law_1705 dL_law_1706 dL_law_1708 dL_law_1709 dL_law_1710 ?_
  refine lv_aload hx hb dL_law_1711 (lv_at hl 5 rfl) ?_
  refine law_Wd (As := [.ref s.heap.size, .int (xs (i + 1)), .ref (s.heap.size + 56)]) (rest := []) S hz hG hN hI (fun r hr => c_L_meanDemanded l G hlf (A0 s.heap.size) f g H hI.1 (ra_0 (Nat.le_of_eq hz)) (s.heap.size + 56) r hr (fun j hj => by have := A0_lt (z := s.heap.size) hj; omega) (xs (i + 1))) gL_law_L_meanDemanded rfl ⟨rfl, rfl⟩ nmL_meanDemanded ⟨Nat.le_of_ble_eq_true rfl, Nat.le_of_ble_eq_true rfl⟩ rfl hl.1 rfl (Nat.le_of_ble_eq_true rfl) ⟨by show cells + 1 ≤ 1063676; omega, by show slots + 6 ≤ 5905075; omega⟩ dL_law_1713 (fun H2 locs2 r i1 i4 i3 ir io i5 => ?_)
  refine lv_istore (lv' := (6, _) :: [(5, .int (nI i)), (0, .ref b), (1, .ref s.heap.size), (2, .ref (s.heap.size + 47)), (3, .ref (s.heap.size + 55)), (4, .ref (s.heap.size + 56))]) hx hb dL_law_1716 hl (by decide) rfl (fun ls hl => ?_)
  have h0 := lv_at hl 2 rfl
  have h5 := lv_at hl 1 rfl
  refine lv_aload_n hx hb dL_law_1718 rfl (lv_at hl 4 rfl) ?_
  refine law_arg (j := 1) S hXs hbl i5.2.2 rfl (by omega) hLx h0 h5 dL_law_1719 dL_law_1720 dL_law_1722 dL_law_1723 dL_law_1724 ?_
  refine law_Md (As := [.int (xs (i + 1))]) (rest := []) (k := ecd [xIAE] (koArg (xs (i + 1)) 0 399)) (P := fun v => ∃ va : UInt64, v = some (.double va) ∧ (koArg (xs (i + 1)) 0 399 = none → va = mnD f g (xs (i + 1)))) S hz hG hX i5 i3 (fun B mc cp m1 m2 m3 m4 => mw_mono (lm_meanDemanded l G (qlD s.heap.size) B mc cp th f g H2 hI.2.1 m1 m2 m3 m4 (xs (i + 1))) (fun q h => h) (fun v t hP => by
    obtain ⟨va, h1, h2, h3⟩ := hP
    exact ⟨⟨va, h1, h2⟩, h3⟩)) gL_law_X11_meanDemanded rfl ⟨rfl, rfl⟩ nmX11_meanDemanded ⟨Nat.le_of_ble_eq_true rfl, Nat.le_of_ble_eq_true rfl⟩ rfl hl.1 rfl (Nat.le_of_ble_eq_true rfl) ⟨by show cells + 1 + 0 ≤ 1063676; omega, by show slots + 6 + 0 ≤ 5905075; omega⟩ dL_law_1725 (fun H3 locs3 v hv j3 hs3 hS3 => ?_)
  obtain ⟨va, hv1, hv2⟩ := hv
  subst hv1
  refine W.eq (g2 := F0 m 1728 ls [.double va]) rfl ?_
  refine lv_dstore (lv' := (7, .double va) :: (6, _) :: [(5, .int (nI i)), (0, .ref b), (1, .ref s.heap.size), (2, .ref (s.heap.size + 47)), (3, .ref (s.heap.size + 55)), (4, .ref (s.heap.size + 56))]) hx hb dL_law_1728 hl (by decide) rfl (fun ls hl => ?_)
  have io3 := io.kept (hs3.2.1 _ io.lt (fun z => z.2.2 rfl))
  have i53 : qLR G s H3 locs3 := lr_M i5 hs3 hS3
  have hGH := lr_gk hz hG i53
  have hl9 := lv_sub (l' := [(5, .int (nI i)), (0, .ref b), (1, .ref s.heap.size), (2, .ref (s.heap.size + 47)), (3, .ref (s.heap.size + 55)), (4, .ref (s.heap.size + 56))]) hl [2, 3, 4, 5, 6, 7] rfl
  have hend : W p l e room_1 s m args below meth c H3 locs3 (cells + 1 + 0) (slots + 6 + 0) Q (F0 m 1778 ls []) := by
    refine lv_goto (tgt := 2103) hx hb dL_law_1778 (by decide) ?_
    exact kk _ f g H3 locs3 _ _ ls ⟨lrp_M i1 hs3, hI.2.1, j3, lo_M i4 hs3, i53⟩ (by omega) (by omega) hl9
  refine lv_aload_n hx hb dL_law_1730 rfl (lv_at hl 5 rfl) ?_
  refine law_th S hz hG i53 j3 ⟨Nat.le_of_ble_eq_true rfl, Nat.le_of_ble_eq_true rfl⟩ ⟨by show cells + 1 + 0 ≤ 1063676; omega, by show slots + 6 + 0 ≤ 5905075; omega⟩ hl.1 dL_law_1731 ?_
  refine lv_iload hx hb dL_law_1734 (lv_at hl 1 rfl) ?_
  refine lv_icmp_eq (tgt := 1741) hx hb dL_law_1736 (by decide) (fun _ => ?_) (fun c => absurd rfl c)
  refine lv_iload hx hb dL_law_1741 (lv_at hl 1 rfl) ?_
  by_cases hk : koArg (xs (i + 1)) 0 399 = none
  · have hr0 : r 0 = va := (ir hk).trans (hv2 hk).symm
    refine lv_if_ne (tgt := 1778) hx hb dL_law_1743 (by decide) (fun c => absurd ((ecd_z (by decide)).mpr hk) c) (fun _ => ?_)
    obtain ⟨w, hw0⟩ : ∃ w, w = Op.cmpValue (FP.dcmp va va) CmpOp.l := ⟨_, rfl⟩
    refine lv_aload hx hb dL_law_1746 (lv_at hl 7 rfl) ?_
    refine lv_iconst (v := 0) hx hb dL_law_1748 (by decide) ?_
    refine law_dald S hGH.1 io3 dL_law_1749 ?_
    rw [hr0]
    refine lv_dload hx hb dL_law_1750 (lv_at hl 0 rfl) ?_
    refine lv_dcmp hx hb dL_law_1752 ?_
    rw [← hw0]
    refine lv_if_eq (tgt := 1778) hx hb dL_law_1753 (by decide) (fun _ => hend) (fun hw => ?_)
    refine lv_aload hx hb dL_law_1756 (lv_at hl 7 rfl) ?_
    refine lv_iconst (v := 0) hx hb dL_law_1758 (by decide) ?_
    refine law_dald S hGH.1 io3 dL_law_1759 ?_
    refine lv_aload hx hb dL_law_1760 (lv_at hl 7 rfl) ?_
    refine lv_iconst (v := 0) hx hb dL_law_1762 (by decide) ?_
    refine law_dald S hGH.1 io3 dL_law_1763 ?_
    rw [hr0]
    refine lv_dcmp hx hb dL_law_1764 ?_
    rw [← hw0]
    refine lv_if_eq (tgt := 1776) hx hb dL_law_1765 (by decide) (fun h => absurd h hw) (fun _ => ?_)
    refine lv_dload hx hb dL_law_1768 (lv_at hl 0 rfl) ?_
    refine lv_dload hx hb dL_law_1770 (lv_at hl 0 rfl) ?_
    refine lv_dcmp hx hb dL_law_1772 ?_
    rw [← hw0]
    exact lv_if_ne (tgt := 1778) hx hb dL_law_1773 (by decide) (fun _ => hend) (fun c => absurd c hw)
  · exact lv_if_ne (tgt := 1778) hx hb dL_law_1743 (by decide) (fun _ => hend) (fun c => absurd ((ecd_z (by decide)).mp c) hk)
set_option maxHeartbeats 1000000 in
set_option maxRecDepth 100000 in
theorem lc_digest (S : CallFix p m c cL_law 9 s args wsL_law RL) (hlf : l.stackTraces = false) (hz : G.2.2.1 = s.heap.size) (hG : GK G s.heap s) (hN : GN s) (hX : GX s) (hXs : va_X b Lx xs s s.heap) (hbl : b < s.heap.size) (hi : i + 5 < Lx) (hLx : Lx ≤ 3072) (hI : qLW G s th f g H locs) (hc : cells + 30 ≤ 1063676 ∧ slots + 2000 ≤ 5905075) (hl : lv_has ls 9 [(5, .int (nI i)), (0, .ref b), (1, .ref s.heap.size), (2, .ref (s.heap.size + 47)), (3, .ref (s.heap.size + 55)), (4, .ref (s.heap.size + 56))])   (kk : ∀ (th2 : Int32) (f2 : Nat → Nat → Int32) (g2 : Nat → Nat) (H2 : Heap) (locs2 : List Loc) (cells2 slots2 : Nat) (ls2 : Array Slot), qLW G s th2 f2 g2 H2 locs2 → cells2 ≤ cells + 21 → slots2 ≤ slots + 1660 → lv_has ls2 9 [(5, .int (nI i)), (0, .ref b), (1, .ref s.heap.size), (2, .ref (s.heap.size + 47)), (3, .ref (s.heap.size + 55)), (4, .ref (s.heap.size + 56))] → W p l e room_1 s m args below meth c H2 locs2 cells2 slots2 Q (F0 m 2103 ls2 [])) : W p l e room_1 s m args below meth c H locs cells slots Q (F0 m 2089 ls []) := by
  have hx := S.1
  have hb := S.2.1
  have hGH := lr_gk hz hG hI.2.2.2.2
  refine lv_aload_n hx hb dL_law_2089 rfl (lv_at hl 2 rfl) ?_
  refine law_rx (As := []) (rest := []) (v := some (.long (dg5 f g))) S hGH (c_X7_digest l G hlf (A0 s.heap.size) f g H hI.1 hI.2.1.1.1) gL_law_X7_digest rfl ⟨rfl, rfl⟩ nmX7_digest ⟨Nat.le_of_ble_eq_true rfl, Nat.le_of_ble_eq_true rfl⟩ (rd_rcv hGH.1 (rP_0 hI.1) rfl) rfl hl.1 rfl (Nat.le_of_ble_eq_true rfl) ⟨by show cells + 1 ≤ 1063676; omega, by show slots + 6 ≤ 5905075; omega⟩ dL_law_2090 ?_
  refine W.eq (g2 := F0 m 2093 ls [.long (dg5 f g)]) rfl ?_
  refine lv_aload_n hx hb dL_law_2093 rfl (lv_at hl 3 rfl) ?_
  refine law_Md (As := []) (rest := [.long (dg5 f g)]) (k := 0) (P := fun v => v = some (.long (dg5 f g))) S hz hG hX hI.2.2.2.2 hI.2.2.1 (fun B mc cp m1 m2 m3 m4 => lm_digest l G (qlD s.heap.size) B mc cp th f g H hI.2.1 m1 m2 m3 m4) gL_law_X11_digest rfl ⟨rfl, rfl⟩ nmX11_digest ⟨Nat.le_of_ble_eq_true rfl, Nat.le_of_ble_eq_true rfl⟩ rfl hl.1 rfl (Nat.le_of_ble_eq_true rfl) ⟨by show cells + 1 + 20 ≤ 1063676; omega, by show slots + 6 + 180 ≤ 5905075; omega⟩ dL_law_2094 (fun H3 locs3 v hv j3 hs3 hS3 => ?_)
  subst hv
  refine W.eq (g2 := F0 m 2097 ls [.long (dg5 f g), .long (dg5 f g)]) rfl ?_
  refine W.lcmp hx hb dL_law_2097 ?_
  rw [lcmp_self]
  refine lv_if_eq (tgt := 2103) hx hb dL_law_2098 (by decide) (fun _ => ?_) (fun c => absurd rfl c)
  exact kk 0 f g H3 locs3 _ _ ls ⟨lrp_M hI.1 hs3, hI.2.1, j3, lo_M hI.2.2.2.1 hs3, lr_M hI.2.2.2.2 hs3 hS3⟩ (by omega) (by omega) hl
end QCA
