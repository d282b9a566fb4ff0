section QLW
variable {p : Program} {l : Launch} {e : Env} {s : State} {m : MethodId} {args : Array Value} {below : List Frame} {meth : Method} {c : Code} {Q : State → Prop} {G : GT}
set_option maxHeartbeats 4000000 in
set_option maxRecDepth 100000 in
theorem lc_rd (S : CallFix p m c cL_law 13 s args wsL_law RL) (hlf : l.stackTraces = false) (hz : G.2.2.1 = s.heap.size) {H : Heap} {locs : List Loc} {cells slots : Nat} {f : Nat → Nat → Int32} {g : Nat → Nat} (hR : RP G (A0 s.heap.size) f g H) (hI : IV f g) (hS : va_S (fun q => s.heap.size ≤ q) s.heap H locs) (hG : GK G H s) {ls : Array Slot} {x y : Int32} {k pr a1 a2 R : Nat} (h3 : 1 ≤ g 3) (hpr : pr < g 3) (hto : g 0 + a1 + a2 ≤ 399) (hRm : R = 1 ∧ g 5 < 16 ∨ R = 0) (hc : cells + 10 ≤ 687763 ∧ slots + 60 ≤ 7038409) (hl : lv_has ls 13 [(11, .int (nI R)), (10, .int (nI (g 0 + a1 + a2))), (9, .int (nI (g 0 + a1))), (8, .int (nI pr)), (7, .int (nI (g 0))), (6, .int y), (5, .int x), (4, .int (nI k)), (3, .int (nI (g 7))), (2, .int (nI (g 3))), (0, .ref G.2.2.2.1), (1, .ref (A0 s.heap.size 0))])
    (kk : ∀ (H2 : Heap) (locs2 : List Loc) (f2 : Nat → Nat → Int32) (g2 : Nat → Nat) (cells2 slots2 : Nat) (ls2 : Array Slot), RP G (A0 s.heap.size) f2 g2 H2 → IV f2 g2 → va_S (fun q => s.heap.size ≤ q) s.heap H2 locs2 → GK G H2 s → g2 3 = g 3 → cells2 ≤ cells + 4 → slots2 ≤ slots + 24 → lv_has ls2 13 [(3, .int (nI (g2 7))), (4, .int (nI k)), (0, .ref G.2.2.2.1), (1, .ref (A0 s.heap.size 0)), (2, .int (nI (g 3)))] → W p l e room_1 s m args below meth c H2 locs2 cells2 slots2 Q (F0 m 712 ls2 [])) : W p l e room_1 s m args below meth c H locs cells slots Q (F0 m 660 ls []) := by
  have hx := S.1
  have hb := S.2.1
  have hown := S.2.2.2.1
  have hts := S.2.2.2.2
  have hA : RA G (A0 s.heap.size) := ra_0 (Nat.le_of_eq hz)
  have hDA : ∀ k, rD k → s.heap.size ≤ A0 s.heap.size k := fun k _ => A0_ge
  have hg0 := hI.1.1.1
  have hg1 := hI.1.1.2.1
  have hg3 := hI.1.1.2.2.1
  have hg4 := hI.1.1.2.2.2.1
  have hg5 := hI.1.1.2.2.2.2.1
  have hg7 := hI.1.1.2.2.2.2.2
  refine lv_iload hx hb dL_law_660 (lv_at hl 0 rfl) ?_
  rcases hRm with ⟨rfl, h5⟩ | rfl
  · refine lv_if_eq (tgt := 712) hx hb dL_law_662 (by decide) (fun c => absurd c (by decide)) (fun _ => ?_)
    refine lv_aload_n hx hb dL_law_665 rfl (lv_at hl 11 rfl) ?_
    refine lv_iload hx hb dL_law_666 (lv_at hl 3 rfl) ?_
    refine pw_S (As := [.ref (A0 s.heap.size 0), .int (nI pr)]) (rest := []) S hA hG hS hDA (c_L_isRaised l G hlf (A0 s.heap.size) f g H hR hA hI pr hpr h5) gL_law_L_isRaised rfl ⟨rfl, rfl⟩ nq_isRaised ⟨Nat.le_of_ble_eq_true rfl, Nat.le_of_ble_eq_true rfl⟩ rfl hl.1 rfl (Nat.le_of_ble_eq_true rfl) ⟨by show cells + 3 ≤ 687763; omega, by show slots + 18 ≤ 7038409; omega⟩ dL_law_668 (fun H1 locs1 f1 g1 hR1 hI1 hS1 hG1 => ?_)
    refine W.eq (g2 := F0 m 671 ls [.int 1]) rfl ?_
    refine lv_if_ne (tgt := 712) hx hb dL_law_671 (by decide) (fun _ => ?_) (fun c => absurd c (by decide))
    exact kk H1 locs1 f1 g1 (cells + 3) (slots + 18) ls hR1 hI1.1 hS1 hG1 hI1.2.2.1 (by omega) (by omega) (by rw [hI1.2.2.2]; exact (lv_sub hl [8, 7, 10, 11, 9] rfl))
  · refine lv_if_eq (tgt := 712) hx hb dL_law_662 (by decide) (fun _ => ?_) (fun c => absurd rfl c)
    exact kk H locs f g cells slots ls hR hI hS hG rfl (by omega) (by omega) (lv_sub hl [8, 7, 10, 11, 9] rfl)
end QLW
