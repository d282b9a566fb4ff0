/-! the law's loop -/
section QLL2
variable {p : Program} {l : Launch} {e : Env} {s : State} {m : MethodId} {args : Array Value} {below : List Frame} {meth : Method} {c : Code} {Q : State → Prop} {G : GT} {b Lx : Nat} {xs : Nat → Int32}
set_option maxHeartbeats 4000000 in
set_option maxRecDepth 100000 in
theorem law_loop (S : CallFix p m c cL_law 9 s args wsL_law RL) (hlf : l.stackTraces = false) (hz : G.2.2.1 = s.heap.size) (hG : GK G s.heap s) (hN : GN s) (hX : GX s) (hXs : va_X b Lx xs s s.heap) (hbl : b < s.heap.size) (hLx : Lx ≤ 3072)
  (hend : ∀ (H : Heap) (locs : List Loc) (cells slots : Nat) (ls : Array Slot), qLR G s H locs → cells ≤ 1063676 → slots ≤ 5905075 → W p l e room_1 s m args below meth c H locs cells slots Q (F0 m 2109 ls [])) :
  ∀ (n i : Nat) (th : Int32) (f : Nat → Nat → Int32) (g : Nat → Nat) (H : Heap) (locs : List Loc) (cells slots : Nat) (ls : Array Slot), Lx ≤ i + 6 * n + 5 → i ≤ 3100 → qLW G s th f g H locs → cells + 21 * n + 30 ≤ 1063676 ∧ slots + 1660 * n + 2000 ≤ 5905075 → lv_has ls 9 [(5, .int (nI i)), (0, .ref b), (1, .ref s.heap.size), (2, .ref (s.heap.size + 47)), (3, .ref (s.heap.size + 55)), (4, .ref (s.heap.size + 56))] → W p l e room_1 s m args below meth c H locs cells slots Q (F0 m 28 ls []) := by
  have hx := S.1
  have hb := S.2.1
  intro n
  induction n with
  | zero =>
    intro i th f g H locs cells slots ls hLi hi3 hI hc hl
    have hS := hI.2.2.2.2.2.2
    refine lv_iload hx hb dL_law_28 (lv_at hl 0 rfl) ?_
    refine lv_aload_n hx hb dL_law_30 rfl (lv_at hl 1 rfl) ?_
    refine va_slen hx hb hXs hbl (Nat.not_le.mpr hbl) hS dL_law_31 ?_
    refine lv_bipush (v := 6) hx hb dL_law_32 (by decide) ?_
    refine lv_isub hx hb dL_law_34 ?_
    have e6 : (6 : Int32).toInt = 6 := by decide
    have e1 : (Int32.ofNat Lx - 6).toInt = (Lx : Int) - 6 := by
      show (nI Lx - 6).toInt = _
      rw [zsub (by rw [znI (by omega)]; omega) (by rw [e6]; omega), znI (by omega), e6]
    refine lv_icmp_gt (tgt := 2109) hx hb dL_law_35 (by decide) (fun _ => hend H locs cells slots ls hI.2.2.2.2 (by omega) (by omega)) (fun cgt => ?_)
    exact absurd (zlt.mpr (by rw [e1, znI (by omega)]; omega)) cgt
  | succ n ih =>
    intro i th f g H locs cells slots ls hLi hi3 hI hc hl
    have hS := hI.2.2.2.2.2.2
    refine lv_iload hx hb dL_law_28 (lv_at hl 0 rfl) ?_
    refine lv_aload_n hx hb dL_law_30 rfl (lv_at hl 1 rfl) ?_
    refine va_slen hx hb hXs hbl (Nat.not_le.mpr hbl) hS dL_law_31 ?_
    refine lv_bipush (v := 6) hx hb dL_law_32 (by decide) ?_
    refine lv_isub hx hb dL_law_34 ?_
    have e6 : (6 : Int32).toInt = 6 := by decide
    have e1 : (Int32.ofNat Lx - 6).toInt = (Lx : Int) - 6 := by
      show (nI Lx - 6).toInt = _
      rw [zsub (by rw [znI (by omega)]; omega) (by rw [e6]; omega), znI (by omega), e6]
    refine lv_icmp_gt (tgt := 2109) hx hb dL_law_35 (by decide) (fun _ => hend H locs cells slots ls hI.2.2.2.2 (by omega) (by omega)) (fun cgt => ?_)
    have hi5 : i + 5 < Lx := by
      have h9 := zle.mp (Int32.not_lt.mp cgt)
      rw [e1, znI (by omega)] at h9
      omega
    have hc2 : cells + 30 ≤ 1063676 ∧ slots + 2000 ≤ 5905075 := by omega
    refine lv_aload_n hx hb dL_law_38 rfl (lv_at hl 1 rfl) ?_
    refine lv_iload hx hb dL_law_39 (lv_at hl 0 rfl) ?_
    refine va_sld hx hb hXs hbl (Nat.not_le.mpr hbl) hS (vp_in_nI (show i < Lx by omega) (by omega)) dL_law_41 ?_
    refine lv_bipush (v := 31) hx hb dL_law_42 (by decide) ?_
    refine lv_iand hx hb dL_law_44 ?_
    rw [nI_clamp (by omega)]
    obtain ⟨k, hk, ek⟩ := and31 (xs i)
    rw [ek]
    have kk : ∀ (th2 : Int32) (f2 : Nat → Nat → Int32) (g2 : Nat → Nat) (H2 : Heap) (locs2 : List Loc) (cells2 slots2 : Nat) (ls2 : Array Slot), qLW G s th2 f2 g2 H2 locs2 → cells2 ≤ cells + 21 → slots2 ≤ slots + 1660 → lv_has ls2 9 [(5, .int (nI i)), (0, .ref b), (1, .ref s.heap.size), (2, .ref (s.heap.size + 47)), (3, .ref (s.heap.size + 55)), (4, .ref (s.heap.size + 56))] → W p l e room_1 s m args below meth c H2 locs2 cells2 slots2 Q (F0 m 2103 ls2 []) := by
      intro th2 f2 g2 H2 locs2 cells2 slots2 ls2 hW2 h1 h2 hl2
      refine lv_iinc (v := nI (i + 6)) (lv' := [(5, .int (nI (i + 6))), (0, .ref b), (1, .ref s.heap.size), (2, .ref (s.heap.size + 47)), (3, .ref (s.heap.size + 55)), (4, .ref (s.heap.size + 56))]) hx hb dL_law_2103 hl2 (k := 0) rfl (by show nI i + nI 6 = _; rw [nI_add]) (by decide) rfl (fun ls3 hl3 => ?_)
      refine lv_goto (tgt := 28) hx hb dL_law_2106 (by decide) ?_
      exact ih (i + 6) th2 f2 g2 H2 locs2 cells2 slots2 ls3 (by omega) (by omega) hW2 (by omega) hl3
    have hcase : k = 0 ∨ k = 1 ∨ k = 2 ∨ k = 3 ∨ k = 4 ∨ k = 5 ∨ k = 6 ∨ k = 7 ∨ k = 8 ∨ k = 9 ∨ k = 10 ∨ k = 11 ∨ k = 12 ∨ k = 13 ∨ k = 14 ∨ k = 15 ∨ k = 16 ∨ k = 17 ∨ k = 18 ∨ k = 19 ∨ k = 20 ∨ k = 21 ∨ k = 22 ∨ k = 23 ∨ k = 24 ∨ k = 25 ∨ k = 26 ∨ k = 27 ∨ 28 ≤ k := by omega
    rcases hcase with rfl | rfl | rfl | rfl | rfl | rfl | rfl | rfl | rfl | rfl | rfl | rfl | rfl | rfl | rfl | rfl | rfl | rfl | rfl | rfl | rfl | rfl | rfl | rfl | rfl | rfl | rfl | rfl | h28
    · refine lv_tableIn (off := 127) (tgt := 172) hx hb dL_law_45 (by rw [znI (by decide)]; decide) (by rw [znI (by decide)]; decide) (by rw [znI (by decide)]; rfl) (by decide) ?_
      exact lc_obstacle S hlf hz hG hN hX hXs hbl hi5 hLx hI hc2 hl kk
    · refine lv_tableIn (off := 231) (tgt := 276) hx hb dL_law_45 (by rw [znI (by decide)]; decide) (by rw [znI (by decide)]; decide) (by rw [znI (by decide)]; rfl) (by decide) ?_
      exact lc_end S hlf hz hG hN hX hXs hbl hi5 hLx hI hc2 hl kk
    · refine lv_tableIn (off := 287) (tgt := 332) hx hb dL_law_45 (by rw [znI (by decide)]; decide) (by rw [znI (by decide)]; decide) (by rw [znI (by decide)]; rfl) (by decide) ?_
      exact lc_aid S hlf hz hG hN hX hXs hbl hi5 hLx hI hc2 hl kk
    · refine lv_tableIn (off := 355) (tgt := 400) hx hb dL_law_45 (by rw [znI (by decide)]; decide) (by rw [znI (by decide)]; decide) (by rw [znI (by decide)]; rfl) (by decide) ?_
      exact lc_check S hlf hz hG hN hX hXs hbl hi5 hLx hI hc2 hl kk
    · refine lv_tableIn (off := 423) (tgt := 468) hx hb dL_law_45 (by rw [znI (by decide)]; decide) (by rw [znI (by decide)]; decide) (by rw [znI (by decide)]; rfl) (by decide) ?_
      exact lc_procedure S hlf hz hG hN hX hXs hbl hi5 hLx hI hc2 hl kk
    · refine lv_tableIn (off := 491) (tgt := 536) hx hb dL_law_45 (by rw [znI (by decide)]; decide) (by rw [znI (by decide)]; decide) (by rw [znI (by decide)]; rfl) (by decide) ?_
      exact lc_pass S hlf hz hG hN hX hXs hbl hi5 hLx hI hc2 hl kk
    · refine lv_tableIn (off := 547) (tgt := 592) hx hb dL_law_45 (by rw [znI (by decide)]; decide) (by rw [znI (by decide)]; decide) (by rw [znI (by decide)]; rfl) (by decide) ?_
      exact lc_amend S hlf hz hG hN hX hXs hbl hi5 hLx hI hc2 hl kk
    · refine lv_tableIn (off := 603) (tgt := 648) hx hb dL_law_45 (by rw [znI (by decide)]; decide) (by rw [znI (by decide)]; decide) (by rw [znI (by decide)]; rfl) (by decide) ?_
      exact lc_raise S hlf hz hG hN hX hXs hbl hi5 hLx hI hc2 hl kk
    · refine lv_tableIn (off := 695) (tgt := 740) hx hb dL_law_45 (by rw [znI (by decide)]; decide) (by rw [znI (by decide)]; decide) (by rw [znI (by decide)]; rfl) (by decide) ?_
      exact lc_out S hlf hz hG hN hX hXs hbl hi5 hLx hI hc2 hl kk
    · refine lv_tableIn (off := 775) (tgt := 820) hx hb dL_law_45 (by rw [znI (by decide)]; decide) (by rw [znI (by decide)]; decide) (by rw [znI (by decide)]; rfl) (by decide) ?_
      exact lc_close S hlf hz hG hN hX hXs hbl hi5 hLx hI hc2 hl kk
    · refine lv_tableIn (off := 855) (tgt := 900) hx hb dL_law_45 (by rw [znI (by decide)]; decide) (by rw [znI (by decide)]; decide) (by rw [znI (by decide)]; rfl) (by decide) ?_
      exact lc_cancel S hlf hz hG hN hX hXs hbl hi5 hLx hI hc2 hl kk
    · refine lv_tableIn (off := 911) (tgt := 956) hx hb dL_law_45 (by rw [znI (by decide)]; decide) (by rw [znI (by decide)]; decide) (by rw [znI (by decide)]; rfl) (by decide) ?_
      exact lc_load S hlf hz hG hN hX hXs hbl hi5 hLx hI hc2 hl kk
    · refine lv_tableIn (off := 967) (tgt := 1012) hx hb dL_law_45 (by rw [znI (by decide)]; decide) (by rw [znI (by decide)]; decide) (by rw [znI (by decide)]; rfl) (by decide) ?_
      exact lc_read S hlf hz hG hN hX hXs hbl hi5 hLx hI hc2 hl kk
    · refine lv_tableIn (off := 1023) (tgt := 1068) hx hb dL_law_45 (by rw [znI (by decide)]; decide) (by rw [znI (by decide)]; decide) (by rw [znI (by decide)]; rfl) (by decide) ?_
      exact lc_ofObstacle S hlf hz hG hN hX hXs hbl hi5 hLx hI hc2 hl kk
    · refine lv_tableIn (off := 1091) (tgt := 1136) hx hb dL_law_45 (by rw [znI (by decide)]; decide) (by rw [znI (by decide)]; decide) (by rw [znI (by decide)]; rfl) (by decide) ?_
      exact lc_demanded S hlf hz hG hN hX hXs hbl hi5 hLx hI hc2 hl kk
    · refine lv_tableIn (off := 1171) (tgt := 1216) hx hb dL_law_45 (by rw [znI (by decide)]; decide) (by rw [znI (by decide)]; decide) (by rw [znI (by decide)]; rfl) (by decide) ?_
      exact lc_decides S hlf hz hG hN hX hXs hbl hi5 hLx hI hc2 hl kk
    · refine lv_tableIn (off := 1239) (tgt := 1284) hx hb dL_law_45 (by rw [znI (by decide)]; decide) (by rw [znI (by decide)]; decide) (by rw [znI (by decide)]; rfl) (by decide) ?_
      exact lc_chart S hlf hz hG hN hX hXs hbl hi5 hLx hI hc2 hl kk
    · refine lv_tableIn (off := 1307) (tgt := 1352) hx hb dL_law_45 (by rw [znI (by decide)]; decide) (by rw [znI (by decide)]; decide) (by rw [znI (by decide)]; rfl) (by decide) ?_
      exact lc_inForce S hlf hz hG hN hX hXs hbl hi5 hLx hI hc2 hl kk
    · refine lv_tableIn (off := 1387) (tgt := 1432) hx hb dL_law_45 (by rw [znI (by decide)]; decide) (by rw [znI (by decide)]; decide) (by rw [znI (by decide)]; rfl) (by decide) ?_
      exact lc_ofNotice S hlf hz hG hN hX hXs hbl hi5 hLx hI hc2 hl kk
    · refine lv_tableIn (off := 1455) (tgt := 1500) hx hb dL_law_45 (by rw [znI (by decide)]; decide) (by rw [znI (by decide)]; decide) (by rw [znI (by decide)]; rfl) (by decide) ?_
      exact lc_believes S hlf hz hG hN hX hXs hbl hi5 hLx hI hc2 hl kk
    · refine lv_tableIn (off := 1547) (tgt := 1592) hx hb dL_law_45 (by rw [znI (by decide)]; decide) (by rw [znI (by decide)]; decide) (by rw [znI (by decide)]; rfl) (by decide) ?_
      exact lc_misled S hlf hz hG hN hX hXs hbl hi5 hLx hI hc2 hl kk
    · refine lv_tableIn (off := 1603) (tgt := 1648) hx hb dL_law_45 (by rw [znI (by decide)]; decide) (by rw [znI (by decide)]; decide) (by rw [znI (by decide)]; rfl) (by decide) ?_
      exact lc_many S hlf hz hG hN hX hXs hbl hi5 hLx hI hc2 hl kk
    · refine lv_tableIn (off := 1659) (tgt := 1704) hx hb dL_law_45 (by rw [znI (by decide)]; decide) (by rw [znI (by decide)]; decide) (by rw [znI (by decide)]; rfl) (by decide) ?_
      exact lc_meanDemanded S hlf hz hG hN hX hXs hbl hi5 hLx hI hc2 hl kk
    · refine lv_tableIn (off := 1736) (tgt := 1781) hx hb dL_law_45 (by rw [znI (by decide)]; decide) (by rw [znI (by decide)]; decide) (by rw [znI (by decide)]; rfl) (by decide) ?_
      exact lc_permit S hlf hz hG hN hX hXs hbl hi5 hLx hI hc2 hl kk
    · refine lv_tableIn (off := 1840) (tgt := 1885) hx hb dL_law_45 (by rw [znI (by decide)]; decide) (by rw [znI (by decide)]; decide) (by rw [znI (by decide)]; rfl) (by decide) ?_
      exact lc_highest S hlf hz hG hN hX hXs hbl hi5 hLx hI hc2 hl kk
    · refine lv_tableIn (off := 1932) (tgt := 1977) hx hb dL_law_45 (by rw [znI (by decide)]; decide) (by rw [znI (by decide)]; decide) (by rw [znI (by decide)]; rfl) (by decide) ?_
      exact lc_unsafeOn S hlf hz hG hN hX hXs hbl hi5 hLx hI hc2 hl kk
    · refine lv_tableIn (off := 1988) (tgt := 2033) hx hb dL_law_45 (by rw [znI (by decide)]; decide) (by rw [znI (by decide)]; decide) (by rw [znI (by decide)]; rfl) (by decide) ?_
      exact lc_raiseFor S hlf hz hG hN hX hXs hbl hi5 hLx hI hc2 hl kk
    · refine lv_tableIn (off := 2044) (tgt := 2089) hx hb dL_law_45 (by rw [znI (by decide)]; decide) (by rw [znI (by decide)]; decide) (by rw [znI (by decide)]; rfl) (by decide) ?_
      exact lc_digest S hlf hz hG hN hX hXs hbl hi5 hLx hI hc2 hl kk
    · refine lv_tableOut (tgt := 2103) hx hb dL_law_45 (Or.inr (by rw [znI (by omega)]; omega)) (by decide) ?_
      exact kk th f g H locs cells slots ls hI (by omega) (by omega) hl
end QLL2
