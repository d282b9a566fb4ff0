
section QEN
variable {args : Array Value} {s : State}
theorem en_K (hts : ∀ w ∈ lw_tbl, w.before args s = true) : ∃ (D : va_G) (cA : Nat → ClassId), va_K D vwCl [(cA 0, .int)] s := by
  obtain ⟨c1, i1, k1⟩ := u_known (C := RX0) (T := TX0) (N := 2) (n := 2) hts wl_in_wsX00 (hts _ (by decide +kernel))
  obtain ⟨c2, i2, k2⟩ := u_known (C := RX1) (T := TX1) (N := 4) (n := 4) hts wl_in_wsX10 (hts _ (by decide +kernel))
  obtain ⟨c3, i3, k3⟩ := u_known (C := RX2) (T := TX2) (N := 2) (n := 2) hts wl_in_wsX20 (hts _ (by decide +kernel))
  obtain ⟨c4, i4, k4⟩ := u_known (C := RX3) (T := TX3) (N := 7) (n := 7) hts wl_in_wsX30 (hts _ (by decide +kernel))
  obtain ⟨c5, i5, k5⟩ := u_known (C := RX4) (T := TX4) (N := 6) (n := 6) hts wl_in_wsX40 (hts _ (by decide +kernel))
  obtain ⟨c6, i6, k6⟩ := u_known (C := RX5) (T := TX5) (N := 3) (n := 3) hts wl_in_wsX50 (hts _ (by decide +kernel))
  obtain ⟨c7, i7, k7⟩ := u_known (C := RX6) (T := TX6) (N := 1) (n := 1) hts wl_in_wsX60 (hts _ (by decide +kernel))
  obtain ⟨c8, i8, k8⟩ := u_known (C := RX7) (T := TX7) (N := 8) (n := 8) hts wl_in_wsX70 (hts _ (by decide +kernel))
  obtain ⟨a0, b0⟩ := en_I (hts (.arrayClass .int) (by decide +kernel))
  refine ⟨(fun k => match k with | 0 => c1 | 1 => c1 | 2 => c2 | 3 => c3 | 4 => c4 | 5 => c5 | 6 => c6 | 7 => c7 | _ => c8, fun k => match k with | 0 => i1 | 1 => i1 | 2 => i2 | 3 => i3 | 4 => i4 | 5 => i5 | 6 => i6 | 7 => i7 | _ => i8), fun _ => a0, fun c q h => ?_, fun k q h => ?_⟩
  · match c, h with
    | 0, h => cases h; exact k1
    | 1, h => cases h; exact k1
    | 2, h => cases h; exact k2
    | 3, h => cases h; exact k3
    | 4, h => cases h; exact k4
    | 5, h => cases h; exact k5
    | 6, h => cases h; exact k6
    | 7, h => cases h; exact k7
    | 8, h => cases h; exact k8
    | c + 9, h => simp at h
  · match k, h with
    | 0, h => cases h; exact b0
    | k + 1, h => simp at h
theorem en_G (hts : ∀ w ∈ lw_tbl, w.before args s = true) (hgv : (Jvm.Cond.and given_1 narrow_1).before args s = true) {b L : Nat} {xs : Nat → Int32} (hX : va_X b L xs s s.heap) (hbl : b < s.heap.size) (hL : L ≤ 260) : ∃ G : GT, G.2.2.1 = s.heap.size ∧ GK G s.heap s ∧ G.2.2.2.1 = b := by
  obtain ⟨D, cA, hK⟩ := en_K hts
  obtain ⟨q1, q2⟩ := en_Q hts hgv
  exact ⟨(D, cA, s.heap.size, b, L, xs), rfl, ⟨⟨hK, en_tab hts, en_strs hts hgv, trivial⟩, q1, q2, hX, hbl, hL⟩, rfl⟩
end QEN
section QLS
variable {p : Program} {l : Launch} {e : Env} {s : State} {m : MethodId} {args : Array Value} {below : List Frame} {meth : Method} {c : Code} {Q : State → Prop} {G : GT} {b : Nat} {ls : Array Slot}
set_option maxHeartbeats 4000000 in
set_option maxRecDepth 100000 in
theorem law_start (S : CallFix p m c cL_law 13 s args wsL_law RL) (hz : G.2.2.1 = s.heap.size) (hG : GK G s.heap s) (hX : GX s) (hl : lv_has ls 13 [(0, .ref b)])
    (kk : ∀ (H : Heap) (locs : List Loc) (ls2 : Array Slot), RP G (A0 s.heap.size) f0 g0 H → va_S (fun q => s.heap.size ≤ q) s.heap H locs → GK G H s → lv_has ls2 13 [(1, .ref s.heap.size), (0, .ref b)] → W p l e room_1 s m args below meth c H locs 47 508 Q (F0 m 8 ls2 [])) : W p l e room_1 s m args below meth c s.heap [] 0 0 Q (F0 m 0 ls []) := by
  have hx := S.1
  have hb := S.2.1
  have hts := S.2.2.2.2
  have hD : DP G (fun q => s.heap.size ≤ q) s.heap.size := ⟨fun q hq => hq, fun q hq => by rw [hz]; exact hq⟩
  have hS0 : va_S (fun q => s.heap.size ≤ q) s.heap s.heap [] := va_S.rf
  refine mw_new (fs := [.null, .null, .null, .null, .null, .null, .int 0, .int 0]) (ci := 8) S hG inlX7 tyX7 tyX7_ok (hts (.classLink RL 9 RX7) (by decide +kernel)) (hts (.instantiable RX7 8) (by decide +kernel)) (hts (.initialized RX7) (by decide +kernel)) rfl (fun j hj => match j, hj with | 0, _ => rfl | 1, _ => rfl | 2, _ => rfl | 3, _ => rfl | 4, _ => rfl | 5, _ => rfl | 6, _ => rfl | 7, _ => rfl | _ + 8, h => absurd h (by omega)) ⟨Nat.le_of_ble_eq_true rfl, Nat.le_of_ble_eq_true rfl⟩ dL_law_0 (fun H1 ha1 hz1 hx1 => ?_)
  have hG1 := gk_ext hx1 hG
  have hS1 := vs_new hS0 hx1
  refine lv_dup hx hb dL_law_3 rfl ?_
  refine mw_I (As := []) (rest := [.ref s.heap.size]) S hD hX hG1 hS1 (c_X7_init l G H1 s.heap.size (by omega) (by omega) hz1 ha1) (fun q h => h.elim (fun e => Nat.le_of_eq e.symm) (fun h => Nat.le_trans hS1.1 h)) gL_law_X7_init rfl ⟨rfl, rfl⟩ (hts (.initialized RX7) (by decide +kernel)) (hts (.methodLink RL 11 yX7_init) (by decide +kernel)) (hts (.instanceMethod yX7_init) (by decide +kernel)) rfl nmX7_init ⟨Nat.le_of_ble_eq_true rfl, Nat.le_of_ble_eq_true rfl⟩ rfl hl.1 rfl (Nat.le_of_ble_eq_true rfl) ⟨Nat.le_of_ble_eq_true rfl, Nat.le_of_ble_eq_true rfl⟩ dL_law_4 (fun H2 locs2 v2 hS2 hs2 hP2 hG2 => ?_)
  obtain ⟨hv2, hR2, -⟩ := hP2
  subst hv2
  refine W.eq (g2 := F0 m 7 ls [.ref s.heap.size]) rfl ?_
  refine lv_astore_n (lv' := [(1, .ref s.heap.size), (0, .ref b)]) hx hb dL_law_7 rfl hl (by decide) rfl (fun ls hl => ?_)
  exact kk H2 locs2 ls hR2 hS2 hG2 hl
set_option maxHeartbeats 4000000 in
set_option maxRecDepth 100000 in
theorem law_all (S : CallFix p m c cL_law 13 s args wsL_law RL) (hlf : l.stackTraces = false) (hz : G.2.2.1 = s.heap.size) {H : Heap} {locs : List Loc} (hR : RP G (A0 s.heap.size) f0 g0 H) (hS : va_S (fun q => s.heap.size ≤ q) s.heap H locs) (hG : GK G H s) (hl : lv_has ls 13 [(1, .ref (A0 s.heap.size 0)), (0, .ref G.2.2.2.1)])
  (hend : ∀ (H : Heap) (locs : List Loc) (cells slots pc : Nat) (ls : Array Slot), va_S (fun q => s.heap.size ≤ q) s.heap H locs → cells ≤ 687763 → slots ≤ 7038409 → decode cL_law pc = .ok (.ireturn, 1) → W p l e room_1 s m args below meth c H locs cells slots Q (F0 m pc ls [.int 1])) : W p l e room_1 s m args below meth c H locs 47 508 Q (F0 m 8 ls []) := by
  have hx := S.1
  have hb := S.2.1
  have hown := S.2.2.2.1
  have hts := S.2.2.2.2
  have hA : RA G (A0 s.heap.size) := ra_0 (Nat.le_of_eq hz)
  have hDA : ∀ k, rD k → s.heap.size ≤ A0 s.heap.size k := fun k _ => A0_ge
  have hI : IV f0 g0 := ⟨li_0, fun j hj => absurd hj (Nat.not_lt_zero j), fun j hj => absurd hj (Nat.not_lt_zero j)⟩
  refine lv_iconst (v := nI 1) hx hb dL_law_8 (by decide) ?_
  refine lv_aload_n hx hb dL_law_9 rfl (lv_at hl 1 rfl) ?_
  refine lv_iconst (v := nI 0) hx hb dL_law_10 (by decide) ?_
  refine rd_S (As := [.ref G.2.2.2.1, .int (nI 0)]) (rest := [.int (nI 1)]) (v := some (.int (ce G 0))) S hG (c_L_cell l G H 0 (by omega)) gL_law_L_cell rfl ⟨rfl, rfl⟩ nq_cell ⟨Nat.le_of_ble_eq_true rfl, Nat.le_of_ble_eq_true rfl⟩ rfl hl.1 rfl (Nat.le_of_ble_eq_true rfl) ⟨by show 47 ≤ 687763; omega, by show 508 ≤ 7038409; omega⟩ dL_law_11 ?_
  refine W.eq (g2 := F0 m 14 ls [.int (ce G 0), .int (nI 1)]) rfl ?_
  refine lv_iconst (v := nI 4) hx hb dL_law_14 (by decide) ?_
  obtain ⟨r, hr, er⟩ := bel_ex (ce G 0) (N := 4) (by omega) (by omega)
  refine rd_S (As := [.int (ce G 0), .int (nI 4)]) (rest := [.int (nI 1)]) (v := some (.int (bel (ce G 0) (nI 4)))) S hG (c_L_below l G H (ce G 0) (nI 4) (by decide)) gL_law_L_below rfl ⟨rfl, rfl⟩ nq_below ⟨Nat.le_of_ble_eq_true rfl, Nat.le_of_ble_eq_true rfl⟩ rfl hl.1 rfl (Nat.le_of_ble_eq_true rfl) ⟨by show 47 ≤ 687763; omega, by show 508 ≤ 7038409; omega⟩ dL_law_15 ?_
  refine W.eq (g2 := F0 m 18 ls [.int (bel (ce G 0) (nI 4)), .int (nI 1)]) rfl ?_
  rw [er]
  refine lv_iadd hx hb dL_law_18 ?_
  rw [nI_add 1 r]
  refine lv_istore_n (lv' := [(2, .int (nI (1 + r))), (1, .ref (A0 s.heap.size 0)), (0, .ref G.2.2.2.1)]) hx hb dL_law_19 rfl hl (by decide) rfl (fun ls hl => ?_)
  refine lv_iconst (v := nI 0) hx hb dL_law_20 (by decide) ?_
  refine lv_istore_n (lv' := [(3, .int (nI 0)), (2, .int (nI (1 + r))), (1, .ref (A0 s.heap.size 0)), (0, .ref G.2.2.2.1)]) hx hb dL_law_21 rfl hl (by decide) rfl (fun ls hl => ?_)
  refine law_procs S hlf hz (P := 1 + r) (by omega) (fun H locs cells slots f g ls hR hI hS hG e3 e0 e7 hc hs hl => ?_) (1 + r) 0 H locs 47 508 f0 g0 ls (by omega) hR hI hS hG rfl rfl rfl rfl (by omega) (lv_sub hl [0, 1, 3, 2] rfl)
  rw [← e3] at hl
  refine lv_iconst (v := nI 0) hx hb dL_law_80 (by decide) ?_
  refine lv_istore_n (lv' := [(3, .int (nI 0)), (2, .int (nI (g 3))), (0, .ref G.2.2.2.1), (1, .ref (A0 s.heap.size 0))]) hx hb dL_law_81 rfl hl (by decide) rfl (fun ls hl => ?_)
  refine law_checks S hlf hz (P := 1 + r) (fun H locs cells slots f g ls hR hI hS hG e3 e7 hc hs hl => ?_) 3 0 H locs cells slots f g ls rfl hR hI hS hG e3 e0 e7 (by omega) (lv_sub hl [0, 1, 2, 3] rfl)
  refine lv_iconst (v := nI 0) hx hb dL_law_120 (by decide) ?_
  refine lv_istore_n (lv' := [(3, .int (nI 0)), (2, .int (nI (g 3))), (0, .ref G.2.2.2.1), (1, .ref (A0 s.heap.size 0))]) hx hb dL_law_121 rfl hl (by decide) rfl (fun ls hl => ?_)
  refine lv_iconst (v := nI 0) hx hb dL_law_122 (by decide) ?_
  refine lv_istore (lv' := [(4, .int (nI 0)), (3, .int (nI 0)), (2, .int (nI (g 3))), (0, .ref G.2.2.2.1), (1, .ref (A0 s.heap.size 0))]) hx hb dL_law_123 hl (by decide) rfl (fun ls hl => ?_)
  exact law_loop S hlf hz hend 26 0 H locs cells slots f g ls rfl hR hI hS hG (by omega) (by omega) (by rw [e7]; exact lv_sub hl [0, 1, 3, 4, 2] rfl)

end QLS
