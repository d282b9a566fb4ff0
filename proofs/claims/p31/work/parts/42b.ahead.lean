section QLW
variable {p : Program} {l : Launch} {e : Env} {s : State} {m : MethodId} {args : Array Value} {below : List Frame} {meth : Method} {c : Code} {Q : State → Prop} {G : GT}
set_option maxHeartbeats 4000000 in
set_option maxRecDepth 100000 in
theorem law_procs (S : CallFix p m c cL_law 13 s args wsL_law RL) (hlf : l.stackTraces = false) (hz : G.2.2.1 = s.heap.size) {P : Nat} (hP : 1 ≤ P ∧ P ≤ 4)
  (kn : ∀ (H : Heap) (locs : List Loc) (cells slots : Nat) (f : Nat → Nat → Int32) (g : Nat → Nat) (ls : Array Slot), RP G (A0 s.heap.size) f g H → IV f g → va_S (fun q => s.heap.size ≤ q) s.heap H locs → GK G H s → g 3 = P → g 0 = 0 → g 7 = 0 → cells ≤ 80 → slots ≤ 800 → lv_has ls 13 [(2, .int (nI P)), (0, .ref G.2.2.2.1), (1, .ref (A0 s.heap.size 0))] → W p l e room_1 s m args below meth c H locs cells slots Q (F0 m 80 ls [])) :
  ∀ (n k : Nat) (H : Heap) (locs : List Loc) (cells slots : Nat) (f : Nat → Nat → Int32) (g : Nat → Nat) (ls : Array Slot), k + n = P → RP G (A0 s.heap.size) f g H → IV f g → va_S (fun q => s.heap.size ≤ q) s.heap H locs → GK G H s → g 3 = k → g 0 = 0 → g 4 = k → g 7 = 0 → cells + 2 * n ≤ 80 ∧ slots + 12 * n ≤ 800 → lv_has ls 13 [(3, .int (nI k)), (2, .int (nI P)), (0, .ref G.2.2.2.1), (1, .ref (A0 s.heap.size 0))] → W p l e room_1 s m args below meth c H locs cells slots Q (F0 m 22 ls []) := by
  have hx := S.1
  have hb := S.2.1
  have hown := S.2.2.2.1
  have hts := S.2.2.2.2
  have hA : RA G (A0 s.heap.size) := ra_0 (Nat.le_of_eq hz)
  have hDA : ∀ k, rD k → s.heap.size ≤ A0 s.heap.size k := fun k _ => A0_ge
  intro n
  induction n with
  | zero =>
    intro k H locs cells slots f g ls hk hR hI hS hG e3 e0 e4 e7 hc hl
    have e9 : k = P := by omega
    subst e9
    refine lv_iload_n hx hb dL_law_22 rfl (lv_at hl 0 rfl) ?_
    refine lv_iload_n hx hb dL_law_23 rfl (lv_at hl 1 rfl) ?_
    refine lv_icmp_ge (tgt := 80) hx hb dL_law_24 (by decide) (fun _ => ?_) (fun c => absurd (Int32.le_refl _) c)
    exact kn H locs cells slots f g ls hR hI hS hG e3 e0 e7 (by omega) (by omega) (lv_sub hl [1, 2, 3] rfl)
  | succ n ih =>
    intro k H locs cells slots f g ls hk hR hI hS hG e3 e0 e4 e7 hc hl
    have hg0 := hI.1.1.1
    have hg1 := hI.1.1.2.1
    have hg3 := hI.1.1.2.2.1
    have hg4 := hI.1.1.2.2.2.1
    have hg5 := hI.1.1.2.2.2.2.1
    have hg7 := hI.1.1.2.2.2.2.2
    refine lv_iload_n hx hb dL_law_22 rfl (lv_at hl 0 rfl) ?_
    refine lv_iload_n hx hb dL_law_23 rfl (lv_at hl 1 rfl) ?_
    refine lv_icmp_ge (tgt := 80) hx hb dL_law_24 (by decide) (fun c => absurd c (nI_ge (by omega) (by omega))) (fun _ => ?_)
    refine lv_aload_n hx hb dL_law_27 rfl (lv_at hl 3 rfl) ?_
    refine lv_aload_n hx hb dL_law_28 rfl (lv_at hl 2 rfl) ?_
    refine lv_iload_n hx hb dL_law_29 rfl (lv_at hl 0 rfl) ?_
    refine lv_iconst (v := nI 1) hx hb dL_law_30 (by decide) ?_
    refine lv_iadd hx hb dL_law_31 ?_
    rw [nI_add k 1]
    refine rd_S (As := [.ref G.2.2.2.1, .int (nI (k + 1))]) (rest := [.ref (A0 s.heap.size 0)]) (v := some (.int (ce G (k + 1)))) S hG (c_L_cell l G H (k + 1) (by omega)) gL_law_L_cell rfl ⟨rfl, rfl⟩ nq_cell ⟨Nat.le_of_ble_eq_true rfl, Nat.le_of_ble_eq_true rfl⟩ rfl hl.1 rfl (Nat.le_of_ble_eq_true rfl) ⟨by show cells ≤ 687763; omega, by show slots ≤ 7038409; omega⟩ dL_law_32 ?_
    refine W.eq (g2 := F0 m 35 ls [.int (ce G (k + 1)), .ref (A0 s.heap.size 0)]) rfl ?_
    refine lv_iconst (v := nI 3) hx hb dL_law_35 (by decide) ?_
    obtain ⟨a9, ha9, ea9⟩ := bel_ex (ce G (k + 1)) (N := 3) (by omega) (by omega)
    refine rd_S (As := [.int (ce G (k + 1)), .int (nI 3)]) (rest := [.ref (A0 s.heap.size 0)]) (v := some (.int (bel (ce G (k + 1)) (nI 3)))) S hG (c_L_below l G H (ce G (k + 1)) (nI 3) (by decide)) gL_law_L_below rfl ⟨rfl, rfl⟩ nq_below ⟨Nat.le_of_ble_eq_true rfl, Nat.le_of_ble_eq_true rfl⟩ rfl hl.1 rfl (Nat.le_of_ble_eq_true rfl) ⟨by show cells ≤ 687763; omega, by show slots ≤ 7038409; omega⟩ dL_law_36 ?_
    refine W.eq (g2 := F0 m 39 ls [.int (bel (ce G (k + 1)) (nI 3)), .ref (A0 s.heap.size 0)]) rfl ?_
    rw [ea9]
    refine lv_bipush (v := nI 10) hx hb dL_law_39 (by decide) ?_
    refine lv_aload_n hx hb dL_law_41 rfl (lv_at hl 2 rfl) ?_
    refine lv_iload_n hx hb dL_law_42 rfl (lv_at hl 0 rfl) ?_
    refine lv_iconst (v := nI 2) hx hb dL_law_43 (by decide) ?_
    refine lv_iadd hx hb dL_law_44 ?_
    rw [nI_add k 2]
    refine rd_S (As := [.ref G.2.2.2.1, .int (nI (k + 2))]) (rest := [.int (nI 10), .int (nI a9), .ref (A0 s.heap.size 0)]) (v := some (.int (ce G (k + 2)))) S hG (c_L_cell l G H (k + 2) (by omega)) gL_law_L_cell rfl ⟨rfl, rfl⟩ nq_cell ⟨Nat.le_of_ble_eq_true rfl, Nat.le_of_ble_eq_true rfl⟩ rfl hl.1 rfl (Nat.le_of_ble_eq_true rfl) ⟨by show cells ≤ 687763; omega, by show slots ≤ 7038409; omega⟩ dL_law_45 ?_
    refine W.eq (g2 := F0 m 48 ls [.int (ce G (k + 2)), .int (nI 10), .int (nI a9), .ref (A0 s.heap.size 0)]) rfl ?_
    refine lv_bipush (v := nI 31) hx hb dL_law_48 (by decide) ?_
    obtain ⟨b9, hb9, eb9⟩ := bel_ex (ce G (k + 2)) (N := 31) (by omega) (by omega)
    refine rd_S (As := [.int (ce G (k + 2)), .int (nI 31)]) (rest := [.int (nI 10), .int (nI a9), .ref (A0 s.heap.size 0)]) (v := some (.int (bel (ce G (k + 2)) (nI 31)))) S hG (c_L_below l G H (ce G (k + 2)) (nI 31) (by decide)) gL_law_L_below rfl ⟨rfl, rfl⟩ nq_below ⟨Nat.le_of_ble_eq_true rfl, Nat.le_of_ble_eq_true rfl⟩ rfl hl.1 rfl (Nat.le_of_ble_eq_true rfl) ⟨by show cells ≤ 687763; omega, by show slots ≤ 7038409; omega⟩ dL_law_50 ?_
    refine W.eq (g2 := F0 m 53 ls [.int (bel (ce G (k + 2)) (nI 31)), .int (nI 10), .int (nI a9), .ref (A0 s.heap.size 0)]) rfl ?_
    rw [eb9]
    refine lv_iadd hx hb dL_law_53 ?_
    rw [nI_add 10 b9]
    refine pw_V (As := [.int (nI a9), .int (nI (10 + b9))]) (rest := []) (v := some (.int (nI (g 3)))) S hA hG hS hDA (c_X7_procedure l G hlf (A0 s.heap.size) f g H hR hA (nI a9) (nI (10 + b9))) (kOr_nn (k_ix ha9 (by decide)) (kOr_nn (ka_n (lo := 10) (hi := 40) rfl rfl (by omega) (by omega) (by decide)) (if_neg (nI_ge (b := 4) (show g 3 < 4 by omega) (by decide))))) gL_law_X7_procedure rfl ⟨rfl, rfl⟩ np_procedure ⟨Nat.le_of_ble_eq_true rfl, Nat.le_of_ble_eq_true rfl⟩ (rd_rcv hG.1 (rP_0 hR) rfl) rfl hl.1 rfl (Nat.le_of_ble_eq_true rfl) ⟨by show cells + 1 ≤ 687763; omega, by show slots + 6 ≤ 7038409; omega⟩ dL_law_54 (fun H1 locs1 hR1 hS1 hG1 => ?_)
    refine W.eq (g2 := F0 m 57 ls [.int (nI (g 3))]) rfl ?_
    refine lv_iload_n hx hb dL_law_57 rfl (lv_at hl 0 rfl) ?_
    refine lv_icmp_ne (tgt := 72) hx hb dL_law_58 (by decide) (fun c => absurd (congrArg nI e3) c) (fun _ => ?_)
    have hIV : IV (prAdd f g (nI a9) (nI (10 + b9))) (gset g 3 (g 3 + 1)) := iv_procedure hI ha9 (nI_m1 (by omega)) (by omega)
    have hF : frN (gset g 3 (g 3 + 1)) = 28 := by show (g 0 + 41) / 28 * 28 = 28; rw [e0]
    obtain ⟨q, q1, q2, q3⟩ := amH_b (i := k) hIV.1 (show k < g 3 + 1 by omega) (by rw [hF]; decide)
    refine lv_aload_n hx hb dL_law_61 rfl (lv_at hl 3 rfl) ?_
    refine lv_iload_n hx hb dL_law_62 rfl (lv_at hl 0 rfl) ?_
    refine pw_V (As := [.int (nI k)]) (rest := []) (v := some (.int (amH (prAdd f g (nI a9) (nI (10 + b9))) (gset g 3 (g 3 + 1)) (nI k)))) S hA hG1 hS1 hDA (c_X7_amend l G hlf (A0 s.heap.size) (prAdd f g (nI a9) (nI (10 + b9))) (gset g 3 (g 3 + 1)) H1 hR1 hA (nI k) hg0) (kOr_nn (k_ix (n := gset g 3 (g 3 + 1) 3) (show k < g 3 + 1 by omega) (by show g 3 + 1 < 65536; omega)) (if_neg (fun z => z.elim (fun y => absurd y (nI_ge (b := 20) (show g 4 < 20 by omega) (by decide))) (fun y => absurd y (by rw [hF]; decide))))) gL_law_X7_amend rfl ⟨rfl, rfl⟩ np_amend ⟨Nat.le_of_ble_eq_true rfl, Nat.le_of_ble_eq_true rfl⟩ (rd_rcv hG1.1 (rP_0 hR1) rfl) rfl hl.1 rfl (Nat.le_of_ble_eq_true rfl) ⟨by show cells + 1 + 1 ≤ 687763; omega, by show slots + 6 + 6 ≤ 7038409; omega⟩ dL_law_63 (fun H2 locs2 hR2 hS2 hG2 => ?_)
    refine W.eq (g2 := F0 m 66 ls [.int (amH (prAdd f g (nI a9) (nI (10 + b9))) (gset g 3 (g 3 + 1)) (nI k))]) rfl ?_
    rw [q3]
    refine lv_sipush (v := nI 200) hx hb dL_law_66 (by decide) ?_
    refine lv_icmp_ge (tgt := 74) hx hb dL_law_69 (by decide) (fun _ => ?_) (fun c => absurd (nI_le q1 (by omega)) c)
    refine lv_iinc (v := nI (k + 1)) (lv' := [(3, .int (nI (k + 1))), (2, .int (nI P)), (0, .ref G.2.2.2.1), (1, .ref (A0 s.heap.size 0))]) hx hb dL_law_74 hl (k := 0) rfl (nI_inc _) (by decide) rfl (fun ls hl => ?_)
    refine lv_goto (tgt := 22) hx hb dL_law_77 (by decide) ?_
    exact ih (k + 1) H2 locs2 (cells + 1 + 1) (slots + 6 + 6) _ _ ls (by omega) hR2 (iv_amend hIV (show k < g 3 + 1 by omega) (show g 4 < 20 by omega) (by rw [q3, znI (by omega)]; omega)) hS2 hG2 (show g 3 + 1 = k + 1 by omega) e0 (show g 4 + 1 = k + 1 by omega) e7 (by omega) (lv_sub hl [0, 1, 2, 3] rfl)
set_option maxHeartbeats 4000000 in
set_option maxRecDepth 100000 in
theorem law_checks (S : CallFix p m c cL_law 13 s args wsL_law RL) (hlf : l.stackTraces = false) (hz : G.2.2.1 = s.heap.size) {P : Nat} 
  (kn : ∀ (H : Heap) (locs : List Loc) (cells slots : Nat) (f : Nat → Nat → Int32) (g : Nat → Nat) (ls : Array Slot), RP G (A0 s.heap.size) f g H → IV f g → va_S (fun q => s.heap.size ≤ q) s.heap H locs → GK G H s → g 3 = P → g 7 = 0 → cells ≤ 90 → slots ≤ 900 → lv_has ls 13 [(2, .int (nI (g 3))), (0, .ref G.2.2.2.1), (1, .ref (A0 s.heap.size 0))] → W p l e room_1 s m args below meth c H locs cells slots Q (F0 m 120 ls [])) :
  ∀ (n k : Nat) (H : Heap) (locs : List Loc) (cells slots : Nat) (f : Nat → Nat → Int32) (g : Nat → Nat) (ls : Array Slot), k + n = 3 → RP G (A0 s.heap.size) f g H → IV f g → va_S (fun q => s.heap.size ≤ q) s.heap H locs → GK G H s → g 3 = P → g 0 = 0 → g 7 = 0 → cells + n ≤ 90 ∧ slots + 6 * n ≤ 900 → lv_has ls 13 [(3, .int (nI k)), (2, .int (nI (g 3))), (0, .ref G.2.2.2.1), (1, .ref (A0 s.heap.size 0))] → W p l e room_1 s m args below meth c H locs cells slots Q (F0 m 82 ls []) := by
  have hx := S.1
  have hb := S.2.1
  have hown := S.2.2.2.1
  have hts := S.2.2.2.2
  have hA : RA G (A0 s.heap.size) := ra_0 (Nat.le_of_eq hz)
  have hDA : ∀ k, rD k → s.heap.size ≤ A0 s.heap.size k := fun k _ => A0_ge
  intro n
  induction n with
  | zero =>
    intro k H locs cells slots f g ls hk hR hI hS hG e3 e0 e7 hc hl
    have e9 : k = 3 := by omega
    subst e9
    refine lv_iload_n hx hb dL_law_82 rfl (lv_at hl 0 rfl) ?_
    refine lv_iconst (v := nI 3) hx hb dL_law_83 (by decide) ?_
    refine lv_icmp_ge (tgt := 120) hx hb dL_law_84 (by decide) (fun _ => ?_) (fun c => absurd (Int32.le_refl _) c)
    exact kn H locs cells slots f g ls hR hI hS hG e3 e7 (by omega) (by omega) (lv_sub hl [1, 2, 3] rfl)
  | succ n ih =>
    intro k H locs cells slots f g ls hk hR hI hS hG e3 e0 e7 hc hl
    have hkl : k < 3 := by omega
    refine lv_iload_n hx hb dL_law_82 rfl (lv_at hl 0 rfl) ?_
    refine lv_iconst (v := nI 3) hx hb dL_law_83 (by decide) ?_
    refine lv_icmp_ge (tgt := 120) hx hb dL_law_84 (by decide) (fun c => absurd c (nI_ge hkl (by decide))) (fun _ => ?_)
    refine lv_aload_n hx hb dL_law_87 rfl (lv_at hl 3 rfl) ?_
    refine lv_iload_n hx hb dL_law_88 rfl (lv_at hl 0 rfl) ?_
    refine lv_bipush (v := nI 100) hx hb dL_law_89 (by decide) ?_
    refine lv_aload_n hx hb dL_law_91 rfl (lv_at hl 2 rfl) ?_
    refine lv_iload_n hx hb dL_law_92 rfl (lv_at hl 0 rfl) ?_
    refine lv_iconst (v := nI 3) hx hb dL_law_93 (by decide) ?_
    refine lv_iadd hx hb dL_law_94 ?_
    rw [nI_add k 3]
    refine rd_S (As := [.ref G.2.2.2.1, .int (nI (k + 3))]) (rest := [.int (nI 100), .int (nI k), .ref (A0 s.heap.size 0)]) (v := some (.int (ce G (k + 3)))) S hG (c_L_cell l G H (k + 3) (by omega)) gL_law_L_cell rfl ⟨rfl, rfl⟩ nq_cell ⟨Nat.le_of_ble_eq_true rfl, Nat.le_of_ble_eq_true rfl⟩ rfl hl.1 rfl (Nat.le_of_ble_eq_true rfl) ⟨by show cells ≤ 687763; omega, by show slots ≤ 7038409; omega⟩ dL_law_95 ?_
    refine W.eq (g2 := F0 m 98 ls [.int (ce G (k + 3)), .int (nI 100), .int (nI k), .ref (A0 s.heap.size 0)]) rfl ?_
    refine lv_bipush (v := nI 101) hx hb dL_law_98 (by decide) ?_
    obtain ⟨d9, hd9, ed9⟩ := bel_ex (ce G (k + 3)) (N := 101) (by omega) (by omega)
    refine rd_S (As := [.int (ce G (k + 3)), .int (nI 101)]) (rest := [.int (nI 100), .int (nI k), .ref (A0 s.heap.size 0)]) (v := some (.int (bel (ce G (k + 3)) (nI 101)))) S hG (c_L_below l G H (ce G (k + 3)) (nI 101) (by decide)) gL_law_L_below rfl ⟨rfl, rfl⟩ nq_below ⟨Nat.le_of_ble_eq_true rfl, Nat.le_of_ble_eq_true rfl⟩ rfl hl.1 rfl (Nat.le_of_ble_eq_true rfl) ⟨by show cells ≤ 687763; omega, by show slots ≤ 7038409; omega⟩ dL_law_100 ?_
    refine W.eq (g2 := F0 m 103 ls [.int (bel (ce G (k + 3)) (nI 101)), .int (nI 100), .int (nI k), .ref (A0 s.heap.size 0)]) rfl ?_
    rw [ed9]
    refine lv_iadd hx hb dL_law_103 ?_
    rw [nI_add 100 d9]
    have hck : imin (nI (g 0) + nI (100 + d9)) 399 = nI (100 + d9) := by rw [e0, nI_add, Nat.zero_add]; exact if_neg (lp_n399 (by omega))
    refine pw_V (As := [.int (nI k), .int (nI (100 + d9))]) (rest := []) (v := some (.int (imin (nI (g 0) + nI (100 + d9)) 399))) S hA hG hS hDA (c_X7_check l G hlf (A0 s.heap.size) f g H hR hA (nI k) (nI (100 + d9))) (kOr_nn (k_ix hkl (by decide)) (ka_n (lo := 0) (hi := 200) rfl rfl (Nat.zero_le _) (by omega) (by decide))) gL_law_X7_check rfl ⟨rfl, rfl⟩ np_check ⟨Nat.le_of_ble_eq_true rfl, Nat.le_of_ble_eq_true rfl⟩ (rd_rcv hG.1 (rP_0 hR) rfl) rfl hl.1 rfl (Nat.le_of_ble_eq_true rfl) ⟨by show cells + 1 ≤ 687763; omega, by show slots + 6 ≤ 7038409; omega⟩ dL_law_104 (fun H1 locs1 hR1 hS1 hG1 => ?_)
    refine W.eq (g2 := F0 m 107 ls [.int (imin (nI (g 0) + nI (100 + d9)) 399)]) rfl ?_
    rw [rowPut_fS (k := 16) (show k < rl 16 from hkl)] at hR1
    rw [hck]
    refine lv_bipush (v := nI 100) hx hb dL_law_107 (by decide) ?_
    refine lv_icmp_ge (tgt := 114) hx hb dL_law_109 (by decide) (fun _ => ?_) (fun c => absurd (nI_le (by omega) (by omega)) c)
    refine lv_iinc (v := nI (k + 1)) (lv' := [(3, .int (nI (k + 1))), (2, .int (nI (g 3))), (0, .ref G.2.2.2.1), (1, .ref (A0 s.heap.size 0))]) hx hb dL_law_114 hl (k := 0) rfl (nI_inc _) (by decide) rfl (fun ls hl => ?_)
    refine lv_goto (tgt := 82) hx hb dL_law_117 (by decide) ?_
    exact ih (k + 1) H1 locs1 (cells + 1) (slots + 6) _ _ ls (by omega) hR1 (iv_fS hI (Or.inl rfl)) hS1 hG1 e3 e0 e7 (by omega) (lv_sub hl [0, 1, 2, 3] rfl)
end QLW
