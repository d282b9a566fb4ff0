section QLW
variable {p : Program} {l : Launch} {e : Env} {s : State} {m : MethodId} {args : Array Value} {below : List Frame} {meth : Method} {c : Code} {Q : State → Prop} {G : GT}
set_option maxHeartbeats 4000000 in
set_option maxRecDepth 100000 in
theorem lc_pa (S : CallFix p m c cL_law 13 s args wsL_law RL) (hlf : l.stackTraces = false) (hz : G.2.2.1 = s.heap.size) {H : Heap} {locs : List Loc} {cells slots : Nat} {f : Nat → Nat → Int32} {g : Nat → Nat} (hR : RP G (A0 s.heap.size) f g H) (hI : IV f g) (hS : va_S (fun q => s.heap.size ≤ q) s.heap H locs) (hG : GK G H s) {ls : Array Slot} {x y : Int32} {k pr a1 a2 R : Nat} (h3 : 1 ≤ g 3) (hpr : pr < g 3) (hto : g 0 + a1 + a2 ≤ 399) (hRm : R = 1 ∧ g 5 < 16 ∨ R = 0) (hc : cells + 10 ≤ 687763 ∧ slots + 60 ≤ 7038409) (hl : lv_has ls 13 [(11, .int (nI R)), (10, .int (nI (g 0 + a1 + a2))), (9, .int (nI (g 0 + a1))), (8, .int (nI pr)), (7, .int (nI (g 0))), (6, .int y), (5, .int x), (4, .int (nI k)), (3, .int (nI (g 7))), (2, .int (nI (g 3))), (0, .ref G.2.2.2.1), (1, .ref (A0 s.heap.size 0))])
    (kk : ∀ (H2 : Heap) (locs2 : List Loc) (f2 : Nat → Nat → Int32) (g2 : Nat → Nat) (cells2 slots2 : Nat) (ls2 : Array Slot), RP G (A0 s.heap.size) f2 g2 H2 → IV f2 g2 → va_S (fun q => s.heap.size ≤ q) s.heap H2 locs2 → GK G H2 s → g2 3 = g 3 → cells2 ≤ cells + 4 → slots2 ≤ slots + 24 → lv_has ls2 13 [(3, .int (nI (g2 7))), (4, .int (nI k)), (0, .ref G.2.2.2.1), (1, .ref (A0 s.heap.size 0)), (2, .int (nI (g 3)))] → W p l e room_1 s m args below meth c H2 locs2 cells2 slots2 Q (F0 m 712 ls2 [])) : W p l e room_1 s m args below meth c H locs cells slots Q (F0 m 676 ls []) := by
  have hx := S.1
  have hb := S.2.1
  have hown := S.2.2.2.1
  have hts := S.2.2.2.2
  have hA : RA G (A0 s.heap.size) := ra_0 (Nat.le_of_eq hz)
  have hDA : ∀ k, rD k → s.heap.size ≤ A0 s.heap.size k := fun k _ => A0_ge
  have hg0 := hI.1.1.1
  have hg1 := hI.1.1.2.1
  have hg3 := hI.1.1.2.2.1
  have hg4 := hI.1.1.2.2.2.1
  have hg5 := hI.1.1.2.2.2.2.1
  have hg7 := hI.1.1.2.2.2.2.2
  refine lv_iconst (v := nI 1) hx hb dL_law_676 (by decide) ?_
  refine lv_iload hx hb dL_law_677 (lv_at hl 5 rfl) ?_
  refine lv_iconst (v := nI 2) hx hb dL_law_679 (by decide) ?_
  refine lv_ishr hx hb dL_law_680 ?_
  refine lv_bipush (v := nI 14) hx hb dL_law_681 (by decide) ?_
  obtain ⟨b1, hb1, eb1⟩ := bel_ex (y >>> ((nI 2) &&& 31)) (N := 14) (by omega) (by omega)
  refine rd_S (As := [.int (y >>> ((nI 2) &&& 31)), .int (nI 14)]) (rest := [.int (nI 1)]) (v := some (.int (bel (y >>> ((nI 2) &&& 31)) (nI 14)))) S hG (c_L_below l G H (y >>> ((nI 2) &&& 31)) (nI 14) (by decide)) gL_law_L_below rfl ⟨rfl, rfl⟩ nq_below ⟨Nat.le_of_ble_eq_true rfl, Nat.le_of_ble_eq_true rfl⟩ rfl hl.1 rfl (Nat.le_of_ble_eq_true rfl) ⟨by show cells ≤ 687763; omega, by show slots ≤ 7038409; omega⟩ dL_law_683 ?_
  refine W.eq (g2 := F0 m 686 ls [.int (bel (y >>> ((nI 2) &&& 31)) (nI 14)), .int (nI 1)]) rfl ?_
  rw [eb1]
  refine lv_iadd hx hb dL_law_686 ?_
  rw [nI_add 1 b1]
  refine lv_istore (lv' := [(12, .int (nI (1 + b1))), (11, .int (nI R)), (10, .int (nI (g 0 + a1 + a2))), (9, .int (nI (g 0 + a1))), (8, .int (nI pr)), (7, .int (nI (g 0))), (6, .int y), (5, .int x), (4, .int (nI k)), (3, .int (nI (g 7))), (2, .int (nI (g 3))), (0, .ref G.2.2.2.1), (1, .ref (A0 s.heap.size 0))]) hx hb dL_law_687 hl (by decide) rfl (fun ls hl => ?_)
  refine lv_iload hx hb dL_law_689 (lv_at hl 5 rfl) ?_
  refine lv_iload hx hb dL_law_691 (lv_at hl 0 rfl) ?_
  refine lv_iadd hx hb dL_law_693 ?_
  rw [nI_add (g 0) (1 + b1)]
  refine lv_sipush (v := nI 399) hx hb dL_law_694 (by decide) ?_
  by_cases hd : g 0 + (1 + b1) ≤ 399
  · refine lv_icmp_le (tgt := 703) hx hb dL_law_697 (by decide) (fun _ => ?_) (fun c => absurd (nI_le hd (by decide)) c)
    refine lv_iload_n hx hb dL_law_703 rfl (lv_at hl 9 rfl) ?_
    refine lv_aload_n hx hb dL_law_704 rfl (lv_at hl 12 rfl) ?_
    refine lv_iload hx hb dL_law_705 (lv_at hl 0 rfl) ?_
    refine pw_V (As := [.int (nI (1 + b1))]) (rest := [.int (nI (g 7))]) (v := some (.int (nI (psT f g (cnt (nI (1 + b1))))))) S hA hG hS hDA (c_X7_pass l G hlf (A0 s.heap.size) f g H hR hA (nI (1 + b1)) hg0 hg7) (kOr_nn (ka_n (lo := 1) (hi := 60) rfl rfl (by omega) (by omega) (by decide)) (if_neg (by rw [nI_add]; exact lp_n399 hd))) gL_law_X7_pass rfl ⟨rfl, rfl⟩ np_pass ⟨Nat.le_of_ble_eq_true rfl, Nat.le_of_ble_eq_true rfl⟩ (rd_rcv hG.1 (rP_0 hR) rfl) rfl hl.1 rfl (Nat.le_of_ble_eq_true rfl) ⟨by show cells + 1 ≤ 687763; omega, by show slots + 6 ≤ 7038409; omega⟩ dL_law_707 (fun H1 locs1 hR1 hS1 hG1 => ?_)
    refine W.eq (g2 := F0 m 710 ls [.int (nI (psT f g (cnt (nI (1 + b1))))), .int (nI (g 7))]) rfl ?_
    rw [cnt_nI (show 1 + b1 < 2 ^ 31 by omega)] at hR1 ⊢
    refine lv_iadd hx hb dL_law_710 ?_
    rw [nI_add (g 7) (psT f g (1 + b1))]
    refine lv_istore_n (lv' := [(3, .int (nI (g 7 + (psT f g (1 + b1))))), (12, .int (nI (1 + b1))), (11, .int (nI R)), (10, .int (nI (g 0 + a1 + a2))), (9, .int (nI (g 0 + a1))), (8, .int (nI pr)), (7, .int (nI (g 0))), (6, .int y), (5, .int x), (4, .int (nI k)), (2, .int (nI (g 3))), (0, .ref G.2.2.2.1), (1, .ref (A0 s.heap.size 0))]) hx hb dL_law_711 rfl hl (by decide) rfl (fun ls hl => ?_)
    exact kk H1 locs1 f (gset (gset g 0 (g 0 + (1 + b1))) 7 (g 7 + psT f g (1 + b1))) (cells + 1) (slots + 6) ls hR1 (iv_pass hI hd (psT_le f g (1 + b1))) hS1 hG1 rfl (by omega) (by omega) (lv_sub hl [0, 9, 11, 12, 10] rfl)
  · refine lv_icmp_le (tgt := 703) hx hb dL_law_697 (by decide) (fun c => absurd c (nI_ge (by omega) (by omega))) (fun _ => ?_)
    refine lv_goto (tgt := 712) hx hb dL_law_700 (by decide) ?_
    exact kk H locs f g cells slots ls hR hI hS hG rfl (by omega) (by omega) (lv_sub hl [9, 8, 11, 12, 10] rfl)
end QLW
