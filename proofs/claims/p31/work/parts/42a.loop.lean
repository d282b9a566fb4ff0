section QLW
variable {p : Program} {l : Launch} {e : Env} {s : State} {m : MethodId} {args : Array Value} {below : List Frame} {meth : Method} {c : Code} {Q : State → Prop} {G : GT}
set_option maxHeartbeats 4000000 in
set_option maxRecDepth 100000 in
theorem law_loop (S : CallFix p m c cL_law 13 s args wsL_law RL) (hlf : l.stackTraces = false) (hz : G.2.2.1 = s.heap.size)
  (hend : ∀ (H : Heap) (locs : List Loc) (cells slots pc : Nat) (ls : Array Slot), va_S (fun q => s.heap.size ≤ q) s.heap H locs → cells ≤ 687763 → slots ≤ 7038409 → decode cL_law pc = .ok (.ireturn, 1) → W p l e room_1 s m args below meth c H locs cells slots Q (F0 m pc ls [.int 1])) :
  ∀ (n k : Nat) (H : Heap) (locs : List Loc) (cells slots : Nat) (f : Nat → Nat → Int32) (g : Nat → Nat) (ls : Array Slot), k + n = 26 → RP G (A0 s.heap.size) f g H → IV f g → va_S (fun q => s.heap.size ≤ q) s.heap H locs → GK G H s → 1 ≤ g 3 → cells + 4 * n + 20 ≤ 687763 ∧ slots + 24 * n + 100 ≤ 7038409 → lv_has ls 13 [(4, .int (nI k)), (3, .int (nI (g 7))), (0, .ref G.2.2.2.1), (1, .ref (A0 s.heap.size 0)), (2, .int (nI (g 3)))] → W p l e room_1 s m args below meth c H locs cells slots Q (F0 m 125 ls []) := by
  have hx := S.1
  have hb := S.2.1
  have hown := S.2.2.2.1
  have hts := S.2.2.2.2
  have hA : RA G (A0 s.heap.size) := ra_0 (Nat.le_of_eq hz)
  have hDA : ∀ k, rD k → s.heap.size ≤ A0 s.heap.size k := fun k _ => A0_ge
  intro n
  induction n with
  | zero =>
    intro k H locs cells slots f g ls hk hR hI hS hG h3 hc hl
    have hg0 := hI.1.1.1
    have hg1 := hI.1.1.2.1
    have hg3 := hI.1.1.2.2.1
    have hg4 := hI.1.1.2.2.2.1
    have hg5 := hI.1.1.2.2.2.2.1
    have hg7 := hI.1.1.2.2.2.2.2
    have e9 : k = 26 := by omega
    subst e9
    refine lv_iload hx hb dL_law_125 (lv_at hl 0 rfl) ?_
    refine lv_bipush (v := nI 26) hx hb dL_law_127 (by decide) ?_
    refine lv_icmp_ge (tgt := 729) hx hb dL_law_129 (by decide) (fun _ => ?_) (fun c => absurd (Int32.le_refl _) c)
    refine lv_aload_n hx hb dL_law_729 rfl (lv_at hl 3 rfl) ?_
    refine lv_iload_n hx hb dL_law_730 rfl (lv_at hl 4 rfl) ?_
    refine lv_iload_n hx hb dL_law_731 rfl (lv_at hl 1 rfl) ?_
    refine pr_S (As := [.ref (A0 s.heap.size 0), .int (nI (g 3)), .int (nI (g 7))]) (rest := []) (v := some (.int 1)) S hG (c_L_isRight l G hlf (A0 s.heap.size) f g H hR hI h3) gL_law_L_isRight rfl ⟨rfl, rfl⟩ nq_isRight ⟨Nat.le_of_ble_eq_true rfl, Nat.le_of_ble_eq_true rfl⟩ rfl hl.1 rfl (Nat.le_of_ble_eq_true rfl) ⟨by show cells + 1 ≤ 687763; omega, by show slots + 6 ≤ 7038409; omega⟩ dL_law_732 ?_
    refine W.eq (g2 := F0 m 735 ls [.int 1]) rfl ?_
    exact hend H locs cells slots 735 ls hS (by omega) (by omega) dL_law_735
  | succ n ih =>
    intro k H locs cells slots f g ls hk hR hI hS hG h3 hc hl
    have hg0 := hI.1.1.1
    have hg1 := hI.1.1.2.1
    have hg3 := hI.1.1.2.2.1
    have hg4 := hI.1.1.2.2.2.1
    have hg5 := hI.1.1.2.2.2.2.1
    have hg7 := hI.1.1.2.2.2.2.2
    have kk : ∀ (H2 : Heap) (locs2 : List Loc) (f2 : Nat → Nat → Int32) (g2 : Nat → Nat) (cells2 slots2 : Nat) (ls2 : Array Slot), RP G (A0 s.heap.size) f2 g2 H2 → IV f2 g2 → va_S (fun q => s.heap.size ≤ q) s.heap H2 locs2 → GK G H2 s → g2 3 = g 3 → cells2 ≤ cells + 4 → slots2 ≤ slots + 24 → lv_has ls2 13 [(3, .int (nI (g2 7))), (4, .int (nI k)), (0, .ref G.2.2.2.1), (1, .ref (A0 s.heap.size 0)), (2, .int (nI (g 3)))] → W p l e room_1 s m args below meth c H2 locs2 cells2 slots2 Q (F0 m 712 ls2 []) := by
      intro H2 locs2 f2 g2 cells2 slots2 ls hR2 hI2 hS2 hG2 e3 hc2 hs2 hl
      rw [← e3] at hl
      refine lv_aload_n hx hb dL_law_712 rfl (lv_at hl 3 rfl) ?_
      refine lv_iload_n hx hb dL_law_713 rfl (lv_at hl 4 rfl) ?_
      refine lv_iload_n hx hb dL_law_714 rfl (lv_at hl 0 rfl) ?_
      refine pr_S (As := [.ref (A0 s.heap.size 0), .int (nI (g2 3)), .int (nI (g2 7))]) (rest := []) (v := some (.int 1)) S hG2 (c_L_isSound l G hlf (A0 s.heap.size) f2 g2 H2 hR2 hI2) gL_law_L_isSound rfl ⟨rfl, rfl⟩ nq_isSound ⟨Nat.le_of_ble_eq_true rfl, Nat.le_of_ble_eq_true rfl⟩ rfl hl.1 rfl (Nat.le_of_ble_eq_true rfl) ⟨by show cells2 + 1 ≤ 687763; omega, by show slots2 + 6 ≤ 7038409; omega⟩ dL_law_715 ?_
      refine W.eq (g2 := F0 m 718 ls [.int 1]) rfl ?_
      refine lv_if_ne (tgt := 723) hx hb dL_law_718 (by decide) (fun _ => ?_) (fun c => absurd c (by decide))
      refine lv_iinc (v := nI (k + 1)) (lv' := [(4, .int (nI (k + 1))), (3, .int (nI (g2 7))), (0, .ref G.2.2.2.1), (1, .ref (A0 s.heap.size 0)), (2, .int (nI (g2 3)))]) hx hb dL_law_723 hl (k := 1) rfl (nI_inc _) (by decide) rfl (fun ls hl => ?_)
      refine lv_goto (tgt := 125) hx hb dL_law_726 (by decide) ?_
      exact ih (k + 1) H2 locs2 cells2 slots2 f2 g2 ls (by omega) hR2 hI2 hS2 hG2 (by omega) (by omega) (lv_sub hl [0, 1, 2, 3, 4] rfl)
    refine lv_iload hx hb dL_law_125 (lv_at hl 0 rfl) ?_
    refine lv_bipush (v := nI 26) hx hb dL_law_127 (by decide) ?_
    refine lv_icmp_ge (tgt := 729) hx hb dL_law_129 (by decide) (fun c => absurd c (nI_ge (by omega) (by decide))) (fun _ => ?_)
    refine lv_aload_n hx hb dL_law_132 rfl (lv_at hl 2 rfl) ?_
    refine lv_iload hx hb dL_law_133 (lv_at hl 0 rfl) ?_
    refine lv_bipush (v := nI 16) hx hb dL_law_135 (by decide) ?_
    refine lv_irem hx hb dL_law_137 (by decide) ?_
    rw [pk_rem (a := k) (d := 16) (by omega) (by decide) (by decide)]
    refine rd_S (As := [.ref G.2.2.2.1, .int (nI (k % 16))]) (rest := []) (v := some (.int (ce G (k % 16)))) S hG (c_L_cell l G H (k % 16) (by omega)) gL_law_L_cell rfl ⟨rfl, rfl⟩ nq_cell ⟨Nat.le_of_ble_eq_true rfl, Nat.le_of_ble_eq_true rfl⟩ rfl hl.1 rfl (Nat.le_of_ble_eq_true rfl) ⟨by show cells ≤ 687763; omega, by show slots ≤ 7038409; omega⟩ dL_law_138 ?_
    refine W.eq (g2 := F0 m 141 ls [.int (ce G (k % 16))]) rfl ?_
    refine lv_bipush (v := nI 31) hx hb dL_law_141 (by decide) ?_
    refine lv_iload hx hb dL_law_143 (lv_at hl 0 rfl) ?_
    refine lv_imul hx hb dL_law_145 ?_
    refine lv_iadd hx hb dL_law_146 ?_
    refine lv_topi (fun x ex => ?_)
    refine lv_istore (lv' := [(5, .int x), (4, .int (nI k)), (3, .int (nI (g 7))), (0, .ref G.2.2.2.1), (1, .ref (A0 s.heap.size 0)), (2, .int (nI (g 3)))]) hx hb dL_law_147 hl (by decide) rfl (fun ls hl => ?_)
    refine lv_aload_n hx hb dL_law_149 rfl (lv_at hl 3 rfl) ?_
    refine lv_iconst (v := nI 5) hx hb dL_law_150 (by decide) ?_
    refine lv_iload hx hb dL_law_151 (lv_at hl 1 rfl) ?_
    refine lv_imul hx hb dL_law_153 ?_
    rw [pk_mul 5 k]
    refine lv_iconst (v := nI 2) hx hb dL_law_154 (by decide) ?_
    refine lv_iadd hx hb dL_law_155 ?_
    rw [nI_add (5 * k) 2]
    refine lv_bipush (v := nI 16) hx hb dL_law_156 (by decide) ?_
    refine lv_irem hx hb dL_law_158 (by decide) ?_
    rw [pk_rem (a := 5 * k + 2) (d := 16) (by omega) (by decide) (by decide)]
    refine rd_S (As := [.ref G.2.2.2.1, .int (nI ((5 * k + 2) % 16))]) (rest := []) (v := some (.int (ce G ((5 * k + 2) % 16)))) S hG (c_L_cell l G H ((5 * k + 2) % 16) (by omega)) gL_law_L_cell rfl ⟨rfl, rfl⟩ nq_cell ⟨Nat.le_of_ble_eq_true rfl, Nat.le_of_ble_eq_true rfl⟩ rfl hl.1 rfl (Nat.le_of_ble_eq_true rfl) ⟨by show cells ≤ 687763; omega, by show slots ≤ 7038409; omega⟩ dL_law_159 ?_
    refine W.eq (g2 := F0 m 162 ls [.int (ce G ((5 * k + 2) % 16))]) rfl ?_
    refine lv_bipush (v := nI 7) hx hb dL_law_162 (by decide) ?_
    refine lv_iload hx hb dL_law_164 (lv_at hl 1 rfl) ?_
    refine lv_imul hx hb dL_law_166 ?_
    refine lv_iadd hx hb dL_law_167 ?_
    refine lv_topi (fun y ey => ?_)
    refine lv_istore (lv' := [(6, .int y), (5, .int x), (4, .int (nI k)), (3, .int (nI (g 7))), (0, .ref G.2.2.2.1), (1, .ref (A0 s.heap.size 0)), (2, .int (nI (g 3)))]) hx hb dL_law_168 hl (by decide) rfl (fun ls hl => ?_)
    refine lv_aload_n hx hb dL_law_170 rfl (lv_at hl 5 rfl) ?_
    refine lv_iconst (v := nI 1) hx hb dL_law_171 (by decide) ?_
    refine pr_V (As := [.int (nI 1)]) (rest := []) (v := some (.int (mny f g (nI 1)))) S hG (c_X7_many l G hlf (A0 s.heap.size) f g H hR (nI 1)) (k_man (by decide)) gL_law_X7_many rfl ⟨rfl, rfl⟩ np_many ⟨Nat.le_of_ble_eq_true rfl, Nat.le_of_ble_eq_true rfl⟩ (rd_rcv hG.1 (rP_0 hR) rfl) rfl hl.1 rfl (Nat.le_of_ble_eq_true rfl) ⟨by show cells + 1 ≤ 687763; omega, by show slots + 6 ≤ 7038409; omega⟩ dL_law_172 ?_
    refine W.eq (g2 := F0 m 175 ls [.int (mny f g (nI 1))]) rfl ?_
    rw [my_1]
    refine lv_istore (lv' := [(7, .int (nI (g 0))), (6, .int y), (5, .int x), (4, .int (nI k)), (3, .int (nI (g 7))), (0, .ref G.2.2.2.1), (1, .ref (A0 s.heap.size 0)), (2, .int (nI (g 3)))]) hx hb dL_law_175 hl (by decide) rfl (fun ls hl => ?_)
    refine lv_iload hx hb dL_law_177 (lv_at hl 1 rfl) ?_
    refine lv_iload_n hx hb dL_law_179 rfl (lv_at hl 7 rfl) ?_
    obtain ⟨pr, hpr, epr⟩ := bel_ex y (N := g 3) (by omega) (by omega)
    refine rd_S (As := [.int y, .int (nI (g 3))]) (rest := []) (v := some (.int (bel y (nI (g 3))))) S hG (c_L_below l G H y (nI (g 3)) (nI_ne0 (by omega) (by omega))) gL_law_L_below rfl ⟨rfl, rfl⟩ nq_below ⟨Nat.le_of_ble_eq_true rfl, Nat.le_of_ble_eq_true rfl⟩ rfl hl.1 rfl (Nat.le_of_ble_eq_true rfl) ⟨by show cells ≤ 687763; omega, by show slots ≤ 7038409; omega⟩ dL_law_180 ?_
    refine W.eq (g2 := F0 m 183 ls [.int (bel y (nI (g 3)))]) rfl ?_
    rw [epr]
    refine lv_istore (lv' := [(8, .int (nI pr)), (7, .int (nI (g 0))), (6, .int y), (5, .int x), (4, .int (nI k)), (3, .int (nI (g 7))), (0, .ref G.2.2.2.1), (1, .ref (A0 s.heap.size 0)), (2, .int (nI (g 3)))]) hx hb dL_law_183 hl (by decide) rfl (fun ls hl => ?_)
    refine lv_iload hx hb dL_law_185 (lv_at hl 1 rfl) ?_
    refine lv_iload hx hb dL_law_187 (lv_at hl 3 rfl) ?_
    refine lv_iconst (v := nI 3) hx hb dL_law_189 (by decide) ?_
    refine lv_ishr hx hb dL_law_190 ?_
    refine lv_bipush (v := nI 50) hx hb dL_law_191 (by decide) ?_
    obtain ⟨a1, ha1, ea1⟩ := bel_ex (x >>> ((nI 3) &&& 31)) (N := 50) (by omega) (by omega)
    refine rd_S (As := [.int (x >>> ((nI 3) &&& 31)), .int (nI 50)]) (rest := [.int (nI (g 0))]) (v := some (.int (bel (x >>> ((nI 3) &&& 31)) (nI 50)))) S hG (c_L_below l G H (x >>> ((nI 3) &&& 31)) (nI 50) (by decide)) gL_law_L_below rfl ⟨rfl, rfl⟩ nq_below ⟨Nat.le_of_ble_eq_true rfl, Nat.le_of_ble_eq_true rfl⟩ rfl hl.1 rfl (Nat.le_of_ble_eq_true rfl) ⟨by show cells ≤ 687763; omega, by show slots ≤ 7038409; omega⟩ dL_law_193 ?_
    refine W.eq (g2 := F0 m 196 ls [.int (bel (x >>> ((nI 3) &&& 31)) (nI 50)), .int (nI (g 0))]) rfl ?_
    rw [ea1]
    refine lv_iadd hx hb dL_law_196 ?_
    rw [nI_add (g 0) a1]
    refine lv_istore (lv' := [(9, .int (nI (g 0 + a1))), (8, .int (nI pr)), (7, .int (nI (g 0))), (6, .int y), (5, .int x), (4, .int (nI k)), (3, .int (nI (g 7))), (0, .ref G.2.2.2.1), (1, .ref (A0 s.heap.size 0)), (2, .int (nI (g 3)))]) hx hb dL_law_197 hl (by decide) rfl (fun ls hl => ?_)
    refine lv_iload hx hb dL_law_199 (lv_at hl 0 rfl) ?_
    refine lv_iload hx hb dL_law_201 (lv_at hl 3 rfl) ?_
    refine lv_iconst (v := nI 3) hx hb dL_law_203 (by decide) ?_
    refine lv_ishr hx hb dL_law_204 ?_
    refine lv_bipush (v := nI 40) hx hb dL_law_205 (by decide) ?_
    obtain ⟨a2, ha2, ea2⟩ := bel_ex (y >>> ((nI 3) &&& 31)) (N := 40) (by omega) (by omega)
    refine rd_S (As := [.int (y >>> ((nI 3) &&& 31)), .int (nI 40)]) (rest := [.int (nI (g 0 + a1))]) (v := some (.int (bel (y >>> ((nI 3) &&& 31)) (nI 40)))) S hG (c_L_below l G H (y >>> ((nI 3) &&& 31)) (nI 40) (by decide)) gL_law_L_below rfl ⟨rfl, rfl⟩ nq_below ⟨Nat.le_of_ble_eq_true rfl, Nat.le_of_ble_eq_true rfl⟩ rfl hl.1 rfl (Nat.le_of_ble_eq_true rfl) ⟨by show cells ≤ 687763; omega, by show slots ≤ 7038409; omega⟩ dL_law_207 ?_
    refine W.eq (g2 := F0 m 210 ls [.int (bel (y >>> ((nI 3) &&& 31)) (nI 40)), .int (nI (g 0 + a1))]) rfl ?_
    rw [ea2]
    refine lv_iadd hx hb dL_law_210 ?_
    rw [nI_add (g 0 + a1) a2]
    refine lv_istore (lv' := [(10, .int (nI (g 0 + a1 + a2))), (9, .int (nI (g 0 + a1))), (8, .int (nI pr)), (7, .int (nI (g 0))), (6, .int y), (5, .int x), (4, .int (nI k)), (3, .int (nI (g 7))), (0, .ref G.2.2.2.1), (1, .ref (A0 s.heap.size 0)), (2, .int (nI (g 3)))]) hx hb dL_law_211 hl (by decide) rfl (fun ls hl => ?_)
    refine lv_iload hx hb dL_law_213 (lv_at hl 0 rfl) ?_
    refine lv_sipush (v := nI 399) hx hb dL_law_215 (by decide) ?_
    by_cases hto : g 0 + a1 + a2 ≤ 399
    · refine lv_icmp_le (tgt := 228) hx hb dL_law_218 (by decide) (fun _ => ?_) (fun c => absurd (nI_le hto (by decide)) c)
      have k243 : ∀ (R : Nat), (R = 1 ∧ g 5 < 16 ∨ R = 0) → W p l e room_1 s m args below meth c H locs cells slots Q (F0 m 243 ls [.int (nI R)]) := by
        intro R hRm
        refine lv_istore (lv' := [(11, .int (nI R)), (10, .int (nI (g 0 + a1 + a2))), (9, .int (nI (g 0 + a1))), (8, .int (nI pr)), (7, .int (nI (g 0))), (6, .int y), (5, .int x), (4, .int (nI k)), (3, .int (nI (g 7))), (0, .ref G.2.2.2.1), (1, .ref (A0 s.heap.size 0)), (2, .int (nI (g 3)))]) hx hb dL_law_243 hl (by decide) rfl (fun ls hl => ?_)
        refine lv_iload hx hb dL_law_245 (lv_at hl 6 rfl) ?_
        refine lv_bipush (v := nI 13) hx hb dL_law_247 (by decide) ?_
        obtain ⟨w9, hw9, ew9⟩ := bel_ex x (N := 13) (by omega) (by omega)
        refine rd_S (As := [.int x, .int (nI 13)]) (rest := []) (v := some (.int (bel x (nI 13)))) S hG (c_L_below l G H x (nI 13) (by decide)) gL_law_L_below rfl ⟨rfl, rfl⟩ nq_below ⟨Nat.le_of_ble_eq_true rfl, Nat.le_of_ble_eq_true rfl⟩ rfl hl.1 rfl (Nat.le_of_ble_eq_true rfl) ⟨by show cells ≤ 687763; omega, by show slots ≤ 7038409; omega⟩ dL_law_249 ?_
        refine W.eq (g2 := F0 m 252 ls [.int (bel x (nI 13))]) rfl ?_
        rw [ew9]
        have hcs : w9 = 0 ∨ w9 = 1 ∨ w9 = 2 ∨ w9 = 3 ∨ w9 = 4 ∨ w9 = 5 ∨ w9 = 6 ∨ w9 = 7 ∨ w9 = 8 ∨ w9 = 9 ∨ w9 = 10 ∨ 11 ≤ w9 := by omega
        have hl9 := lv_sub (l' := [(11, .int (nI R)), (10, .int (nI (g 0 + a1 + a2))), (9, .int (nI (g 0 + a1))), (8, .int (nI pr)), (7, .int (nI (g 0))), (6, .int y), (5, .int x), (4, .int (nI k)), (3, .int (nI (g 7))), (2, .int (nI (g 3))), (0, .ref G.2.2.2.1), (1, .ref (A0 s.heap.size 0))]) hl [0, 1, 2, 3, 4, 5, 6, 7, 8, 11, 9, 10] rfl
        rcases hcs with rfl | rfl | rfl | rfl | rfl | rfl | rfl | rfl | rfl | rfl | rfl | h11
        · refine lv_tableIn (off := 60) (tgt := 312) hx hb dL_law_252 (by rw [znI (by decide)]; decide) (by rw [znI (by decide)]; decide) (by rw [znI (by decide)]; rfl) (by decide) ?_
          exact lc_ob S hlf hz hR hI hS hG h3 hpr hto hRm (by omega) hl9 kk
        · refine lv_tableIn (off := 60) (tgt := 312) hx hb dL_law_252 (by rw [znI (by decide)]; decide) (by rw [znI (by decide)]; decide) (by rw [znI (by decide)]; rfl) (by decide) ?_
          exact lc_ob S hlf hz hR hI hS hG h3 hpr hto hRm (by omega) hl9 kk
        · refine lv_tableIn (off := 60) (tgt := 312) hx hb dL_law_252 (by rw [znI (by decide)]; decide) (by rw [znI (by decide)]; decide) (by rw [znI (by decide)]; rfl) (by decide) ?_
          exact lc_ob S hlf hz hR hI hS hG h3 hpr hto hRm (by omega) hl9 kk
        · refine lv_tableIn (off := 159) (tgt := 411) hx hb dL_law_252 (by rw [znI (by decide)]; decide) (by rw [znI (by decide)]; decide) (by rw [znI (by decide)]; rfl) (by decide) ?_
          exact lc_am S hlf hz hR hI hS hG h3 hpr hto hRm (by omega) hl9 kk
        · refine lv_tableIn (off := 159) (tgt := 411) hx hb dL_law_252 (by rw [znI (by decide)]; decide) (by rw [znI (by decide)]; decide) (by rw [znI (by decide)]; rfl) (by decide) ?_
          exact lc_am S hlf hz hR hI hS hG h3 hpr hto hRm (by omega) hl9 kk
        · refine lv_tableIn (off := 188) (tgt := 440) hx hb dL_law_252 (by rw [znI (by decide)]; decide) (by rw [znI (by decide)]; decide) (by rw [znI (by decide)]; rfl) (by decide) ?_
          exact lc_ra S hlf hz hR hI hS hG h3 hpr hto hRm (by omega) hl9 kk
        · refine lv_tableIn (off := 227) (tgt := 479) hx hb dL_law_252 (by rw [znI (by decide)]; decide) (by rw [znI (by decide)]; decide) (by rw [znI (by decide)]; rfl) (by decide) ?_
          exact lc_oc S hlf hz hR hI hS hG h3 hpr hto hRm (by omega) hl9 kk
        · refine lv_tableIn (off := 282) (tgt := 534) hx hb dL_law_252 (by rw [znI (by decide)]; decide) (by rw [znI (by decide)]; decide) (by rw [znI (by decide)]; rfl) (by decide) ?_
          exact lc_ca S hlf hz hR hI hS hG h3 hpr hto hRm (by omega) hl9 kk
        · refine lv_tableIn (off := 357) (tgt := 609) hx hb dL_law_252 (by rw [znI (by decide)]; decide) (by rw [znI (by decide)]; decide) (by rw [znI (by decide)]; rfl) (by decide) ?_
          exact lc_fl S hlf hz hR hI hS hG h3 hpr hto hRm (by omega) hl9 kk
        · refine lv_tableIn (off := 373) (tgt := 625) hx hb dL_law_252 (by rw [znI (by decide)]; decide) (by rw [znI (by decide)]; decide) (by rw [znI (by decide)]; rfl) (by decide) ?_
          exact lc_hi S hlf hz hR hI hS hG h3 hpr hto hRm (by omega) hl9 kk
        · refine lv_tableIn (off := 408) (tgt := 660) hx hb dL_law_252 (by rw [znI (by decide)]; decide) (by rw [znI (by decide)]; decide) (by rw [znI (by decide)]; rfl) (by decide) ?_
          exact lc_rd S hlf hz hR hI hS hG h3 hpr hto hRm (by omega) hl9 kk
        · refine lv_tableOut (tgt := 676) hx hb dL_law_252 (Or.inr (by rw [znI (by omega)]; omega)) (by decide) ?_
          exact lc_pa S hlf hz hR hI hS hG h3 hpr hto hRm (by omega) hl9 kk
      refine lv_aload_n hx hb dL_law_228 rfl (lv_at hl 9 rfl) ?_
      refine lv_iconst (v := nI 4) hx hb dL_law_229 (by decide) ?_
      refine pr_V (As := [.int (nI 4)]) (rest := []) (v := some (.int (mny f g (nI 4)))) S hG (c_X7_many l G hlf (A0 s.heap.size) f g H hR (nI 4)) (k_man (by decide)) gL_law_X7_many rfl ⟨rfl, rfl⟩ np_many ⟨Nat.le_of_ble_eq_true rfl, Nat.le_of_ble_eq_true rfl⟩ (rd_rcv hG.1 (rP_0 hR) rfl) rfl hl.1 rfl (Nat.le_of_ble_eq_true rfl) ⟨by show cells + 1 ≤ 687763; omega, by show slots + 6 ≤ 7038409; omega⟩ dL_law_230 ?_
      refine W.eq (g2 := F0 m 233 ls [.int (mny f g (nI 4))]) rfl ?_
      rw [my_4]
      refine lv_bipush (v := nI 16) hx hb dL_law_233 (by decide) ?_
      by_cases h16 : g 5 < 16
      · refine lv_icmp_ge (tgt := 242) hx hb dL_law_235 (by decide) (fun c => absurd c (nI_ge h16 (by decide))) (fun _ => ?_)
        refine lv_iconst (v := nI 1) hx hb dL_law_238 (by decide) ?_
        refine lv_goto (tgt := 243) hx hb dL_law_239 (by decide) ?_
        exact k243 1 (Or.inl ⟨rfl, h16⟩)
      · refine lv_icmp_ge (tgt := 242) hx hb dL_law_235 (by decide) (fun _ => ?_) (fun c => absurd (nI_le (by omega) (by omega)) c)
        refine lv_iconst (v := nI 0) hx hb dL_law_242 (by decide) ?_
        exact k243 0 (Or.inr rfl)
    · refine lv_icmp_le (tgt := 228) hx hb dL_law_218 (by decide) (fun c => absurd c (nI_ge (by omega) (by omega))) (fun _ => ?_)
      refine lv_aload_n hx hb dL_law_221 rfl (lv_at hl 9 rfl) ?_
      refine lv_iload_n hx hb dL_law_222 rfl (lv_at hl 10 rfl) ?_
      refine lv_iload_n hx hb dL_law_223 rfl (lv_at hl 7 rfl) ?_
      refine pr_S (As := [.ref (A0 s.heap.size 0), .int (nI (g 3)), .int (nI (g 7))]) (rest := []) (v := some (.int 1)) S hG (c_L_isRight l G hlf (A0 s.heap.size) f g H hR hI h3) gL_law_L_isRight rfl ⟨rfl, rfl⟩ nq_isRight ⟨Nat.le_of_ble_eq_true rfl, Nat.le_of_ble_eq_true rfl⟩ rfl hl.1 rfl (Nat.le_of_ble_eq_true rfl) ⟨by show cells + 1 ≤ 687763; omega, by show slots + 6 ≤ 7038409; omega⟩ dL_law_224 ?_
      refine W.eq (g2 := F0 m 227 ls [.int 1]) rfl ?_
      exact hend H locs cells slots 227 ls hS (by omega) (by omega) dL_law_227
end QLW
