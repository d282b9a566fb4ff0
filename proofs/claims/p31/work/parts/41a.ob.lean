section QLW
variable {p : Program} {l : Launch} {e : Env} {s : State} {m : MethodId} {args : Array Value} {below : List Frame} {meth : Method} {c : Code} {Q : State → Prop} {G : GT}
set_option maxHeartbeats 4000000 in
set_option maxRecDepth 100000 in
theorem lc_ob (S : CallFix p m c cL_law 13 s args wsL_law RL) (hlf : l.stackTraces = false) (hz : G.2.2.1 = s.heap.size) {H : Heap} {locs : List Loc} {cells slots : Nat} {f : Nat → Nat → Int32} {g : Nat → Nat} (hR : RP G (A0 s.heap.size) f g H) (hI : IV f g) (hS : va_S (fun q => s.heap.size ≤ q) s.heap H locs) (hG : GK G H s) {ls : Array Slot} {x y : Int32} {k pr a1 a2 R : Nat} (h3 : 1 ≤ g 3) (hpr : pr < g 3) (hto : g 0 + a1 + a2 ≤ 399) (hRm : R = 1 ∧ g 5 < 16 ∨ R = 0) (hc : cells + 10 ≤ 687763 ∧ slots + 60 ≤ 7038409) (hl : lv_has ls 13 [(11, .int (nI R)), (10, .int (nI (g 0 + a1 + a2))), (9, .int (nI (g 0 + a1))), (8, .int (nI pr)), (7, .int (nI (g 0))), (6, .int y), (5, .int x), (4, .int (nI k)), (3, .int (nI (g 7))), (2, .int (nI (g 3))), (0, .ref G.2.2.2.1), (1, .ref (A0 s.heap.size 0))])
    (kk : ∀ (H2 : Heap) (locs2 : List Loc) (f2 : Nat → Nat → Int32) (g2 : Nat → Nat) (cells2 slots2 : Nat) (ls2 : Array Slot), RP G (A0 s.heap.size) f2 g2 H2 → IV f2 g2 → va_S (fun q => s.heap.size ≤ q) s.heap H2 locs2 → GK G H2 s → g2 3 = g 3 → cells2 ≤ cells + 4 → slots2 ≤ slots + 24 → lv_has ls2 13 [(3, .int (nI (g2 7))), (4, .int (nI k)), (0, .ref G.2.2.2.1), (1, .ref (A0 s.heap.size 0)), (2, .int (nI (g 3)))] → W p l e room_1 s m args below meth c H2 locs2 cells2 slots2 Q (F0 m 712 ls2 [])) : W p l e room_1 s m args below meth c H locs cells slots Q (F0 m 312 ls []) := by
  have hx := S.1
  have hb := S.2.1
  have hown := S.2.2.2.1
  have hts := S.2.2.2.2
  have hA : RA G (A0 s.heap.size) := ra_0 (Nat.le_of_eq hz)
  have hDA : ∀ k, rD k → s.heap.size ≤ A0 s.heap.size k := fun k _ => A0_ge
  have hg0 := hI.1.1.1
  have hg1 := hI.1.1.2.1
  have hg3 := hI.1.1.2.2.1
  have hg4 := hI.1.1.2.2.2.1
  have hg5 := hI.1.1.2.2.2.2.1
  have hg7 := hI.1.1.2.2.2.2.2
  refine lv_aload_n hx hb dL_law_312 rfl (lv_at hl 11 rfl) ?_
  refine lv_iconst (v := nI 0) hx hb dL_law_313 (by decide) ?_
  refine pr_V (As := [.int (nI 0)]) (rest := []) (v := some (.int (mny f g (nI 0)))) S hG (c_X7_many l G hlf (A0 s.heap.size) f g H hR (nI 0)) (k_man (by decide)) gL_law_X7_many rfl ⟨rfl, rfl⟩ np_many ⟨Nat.le_of_ble_eq_true rfl, Nat.le_of_ble_eq_true rfl⟩ (rd_rcv hG.1 (rP_0 hR) rfl) rfl hl.1 rfl (Nat.le_of_ble_eq_true rfl) ⟨by show cells + 1 ≤ 687763; omega, by show slots + 6 ≤ 7038409; omega⟩ dL_law_314 ?_
  refine W.eq (g2 := F0 m 317 ls [.int (mny f g (nI 0))]) rfl ?_
  rw [my_0]
  refine lv_bipush (v := nI 12) hx hb dL_law_317 (by decide) ?_
  by_cases h12 : g 1 < 12
  · refine lv_icmp_ge (tgt := 712) hx hb dL_law_319 (by decide) (fun c => absurd c (nI_ge h12 (by decide))) (fun _ => ?_)
    have k396 : ∀ (X Y B : Int32) (b4 : Nat), (-20 ≤ X.toInt ∧ X.toInt ≤ 60) → (-9 ≤ Y.toInt ∧ Y.toInt ≤ 9) → b4 < 600 → (B = -1 ∨ ∃ q, B = nI q ∧ g 0 + a1 ≤ q ∧ q ≤ 399) → W p l e room_1 s m args below meth c H locs cells slots Q (F0 m 396 ls [.int B, .int (nI (g 0 + a1)), .int (nI b4), .int Y, .int X, .ref (A0 s.heap.size 0)]) := by
      intro X Y B b4 hX9 hY9 hb4 hB
      have hko1 : koPl X Y (nI (g 0 + a1)) B = none := k_pl hX9 hY9 (by omega) hB
      have hko2 : koArg (nI b4) 0 999 = none := ka_n (lo := 0) (hi := 999) rfl rfl (Nat.zero_le _) (by omega) (by decide)
      refine pw_V (As := [.int X, .int Y, .int (nI b4), .int (nI (g 0 + a1)), .int B]) (rest := []) (v := some (.int (nI (g 1)))) S hA hG hS hDA (c_X7_obstacle l G hlf (A0 s.heap.size) f g H hR hA X Y (nI b4) (nI (g 0 + a1)) B) (kOr_nn hko1 (kOr_nn hko2 (if_neg (nI_ge (b := 12) h12 (by decide))))) gL_law_X7_obstacle rfl ⟨rfl, rfl⟩ np_obstacle ⟨Nat.le_of_ble_eq_true rfl, Nat.le_of_ble_eq_true rfl⟩ (rd_rcv hG.1 (rP_0 hR) rfl) rfl hl.1 rfl (Nat.le_of_ble_eq_true rfl) ⟨by show cells + 1 ≤ 687763; omega, by show slots + 6 ≤ 7038409; omega⟩ dL_law_396 (fun H1 locs1 hR1 hS1 hG1 => ?_)
      refine W.eq (g2 := F0 m 399 ls [.int (nI (g 1))]) rfl ?_
      refine lv_aload_n hx hb dL_law_399 rfl (lv_at hl 11 rfl) ?_
      refine lv_iconst (v := nI 0) hx hb dL_law_400 (by decide) ?_
      refine pr_V (As := [.int (nI 0)]) (rest := [.int (nI (g 1))]) (v := some (.int (mny (obAdd f g X Y (nI b4) (nI (g 0 + a1)) B) (gset g 1 (g 1 + 1)) (nI 0)))) S hG1 (c_X7_many l G hlf (A0 s.heap.size) (obAdd f g X Y (nI b4) (nI (g 0 + a1)) B) (gset g 1 (g 1 + 1)) H1 hR1 (nI 0)) (k_man (by decide)) gL_law_X7_many rfl ⟨rfl, rfl⟩ np_many ⟨Nat.le_of_ble_eq_true rfl, Nat.le_of_ble_eq_true rfl⟩ (rd_rcv hG1.1 (rP_0 hR1) rfl) rfl hl.1 rfl (Nat.le_of_ble_eq_true rfl) ⟨by show cells + 1 + 1 ≤ 687763; omega, by show slots + 6 + 6 ≤ 7038409; omega⟩ dL_law_401 ?_
      refine W.eq (g2 := F0 m 404 ls [.int (mny (obAdd f g X Y (nI b4) (nI (g 0 + a1)) B) (gset g 1 (g 1 + 1)) (nI 0)), .int (nI (g 1))]) rfl ?_
      rw [my_0]
      refine W.eq (g2 := F0 m 404 ls [.int (nI (g 1 + 1)), .int (nI (g 1))]) rfl ?_
      refine lv_iconst (v := nI 1) hx hb dL_law_404 (by decide) ?_
      refine lv_isub hx hb dL_law_405 ?_
      rw [pk_sub (a := g 1 + 1) (b := 1) (by omega)]
      refine lv_icmp_eq (tgt := 712) hx hb dL_law_406 (by decide) (fun _ => ?_) (fun c => absurd rfl c)
      exact kk H1 locs1 (obAdd f g X Y (nI b4) (nI (g 0 + a1)) B) (gset g 1 (g 1 + 1)) (cells + 1) (slots + 6) ls hR1 (iv_obstacle hI hko1 hko2 h12) hS1 hG1 rfl (by omega) (by omega) (lv_sub hl [8, 7, 10, 11, 9] rfl)
    have k355 : ∀ (X : Int32), (-20 ≤ X.toInt ∧ X.toInt ≤ 60) → W p l e room_1 s m args below meth c H locs cells slots Q (F0 m 355 ls [.int X, .ref (A0 s.heap.size 0)]) := by
      intro X hX9
      refine lv_iload hx hb dL_law_355 (lv_at hl 6 rfl) ?_
      refine lv_iconst (v := nI 4) hx hb dL_law_357 (by decide) ?_
      refine lv_ishr hx hb dL_law_358 ?_
      refine lv_bipush (v := nI 11) hx hb dL_law_359 (by decide) ?_
      obtain ⟨b3, hb3, eb3⟩ := bel_ex (x >>> ((nI 4) &&& 31)) (N := 11) (by omega) (by omega)
      refine rd_S (As := [.int (x >>> ((nI 4) &&& 31)), .int (nI 11)]) (rest := [.int X, .ref (A0 s.heap.size 0)]) (v := some (.int (bel (x >>> ((nI 4) &&& 31)) (nI 11)))) S hG (c_L_below l G H (x >>> ((nI 4) &&& 31)) (nI 11) (by decide)) gL_law_L_below rfl ⟨rfl, rfl⟩ nq_below ⟨Nat.le_of_ble_eq_true rfl, Nat.le_of_ble_eq_true rfl⟩ rfl hl.1 rfl (Nat.le_of_ble_eq_true rfl) ⟨by show cells ≤ 687763; omega, by show slots ≤ 7038409; omega⟩ dL_law_361 ?_
      refine W.eq (g2 := F0 m 364 ls [.int (bel (x >>> ((nI 4) &&& 31)) (nI 11)), .int X, .ref (A0 s.heap.size 0)]) rfl ?_
      rw [eb3]
      refine lv_iconst (v := nI 5) hx hb dL_law_364 (by decide) ?_
      refine lv_isub hx hb dL_law_365 ?_
      have hY9 : -9 ≤ (nI b3 - nI 5).toInt ∧ (nI b3 - nI 5).toInt ≤ 9 := by rw [pk_sub_toInt (by omega) (by omega)]; omega
      generalize nI b3 - nI 5 = Y at hY9 ⊢
      refine lv_iload hx hb dL_law_366 (lv_at hl 6 rfl) ?_
      refine lv_bipush (v := nI 6) hx hb dL_law_368 (by decide) ?_
      refine lv_ishr hx hb dL_law_370 ?_
      refine lv_sipush (v := nI 600) hx hb dL_law_371 (by decide) ?_
      obtain ⟨b4, hb4, eb4⟩ := bel_ex (x >>> ((nI 6) &&& 31)) (N := 600) (by omega) (by omega)
      refine rd_S (As := [.int (x >>> ((nI 6) &&& 31)), .int (nI 600)]) (rest := [.int Y, .int X, .ref (A0 s.heap.size 0)]) (v := some (.int (bel (x >>> ((nI 6) &&& 31)) (nI 600)))) S hG (c_L_below l G H (x >>> ((nI 6) &&& 31)) (nI 600) (by decide)) gL_law_L_below rfl ⟨rfl, rfl⟩ nq_below ⟨Nat.le_of_ble_eq_true rfl, Nat.le_of_ble_eq_true rfl⟩ rfl hl.1 rfl (Nat.le_of_ble_eq_true rfl) ⟨by show cells ≤ 687763; omega, by show slots ≤ 7038409; omega⟩ dL_law_374 ?_
      refine W.eq (g2 := F0 m 377 ls [.int (bel (x >>> ((nI 6) &&& 31)) (nI 600)), .int Y, .int X, .ref (A0 s.heap.size 0)]) rfl ?_
      rw [eb4]
      refine lv_iload hx hb dL_law_377 (lv_at hl 2 rfl) ?_
      refine lv_iload hx hb dL_law_379 (lv_at hl 6 rfl) ?_
      refine lv_iconst (v := nI 5) hx hb dL_law_381 (by decide) ?_
      refine lv_ishr hx hb dL_law_382 ?_
      refine lv_iconst (v := nI 3) hx hb dL_law_383 (by decide) ?_
      obtain ⟨b5, hb5, eb5⟩ := bel_ex (x >>> ((nI 5) &&& 31)) (N := 3) (by omega) (by omega)
      refine rd_S (As := [.int (x >>> ((nI 5) &&& 31)), .int (nI 3)]) (rest := [.int (nI (g 0 + a1)), .int (nI b4), .int Y, .int X, .ref (A0 s.heap.size 0)]) (v := some (.int (bel (x >>> ((nI 5) &&& 31)) (nI 3)))) S hG (c_L_below l G H (x >>> ((nI 5) &&& 31)) (nI 3) (by decide)) gL_law_L_below rfl ⟨rfl, rfl⟩ nq_below ⟨Nat.le_of_ble_eq_true rfl, Nat.le_of_ble_eq_true rfl⟩ rfl hl.1 rfl (Nat.le_of_ble_eq_true rfl) ⟨by show cells ≤ 687763; omega, by show slots ≤ 7038409; omega⟩ dL_law_384 ?_
      refine W.eq (g2 := F0 m 387 ls [.int (bel (x >>> ((nI 5) &&& 31)) (nI 3)), .int (nI (g 0 + a1)), .int (nI b4), .int Y, .int X, .ref (A0 s.heap.size 0)]) rfl ?_
      rw [eb5]
      refine lv_if_ne (tgt := 394) hx hb dL_law_387 (by decide) (fun c5 => ?_) (fun c5 => ?_)
      · refine lv_iload hx hb dL_law_394 (lv_at hl 1 rfl) ?_
        exact k396 X Y _ b4 hX9 hY9 hb4 (Or.inr ⟨g 0 + a1 + a2, rfl, by omega, hto⟩)
      · refine lv_iconst (v := (-1)) hx hb dL_law_390 (by decide) ?_
        refine lv_goto (tgt := 396) hx hb dL_law_391 (by decide) ?_
        exact k396 X Y _ b4 hX9 hY9 hb4 (Or.inl rfl)
    refine lv_aload_n hx hb dL_law_322 rfl (lv_at hl 11 rfl) ?_
    refine lv_iload hx hb dL_law_323 (lv_at hl 5 rfl) ?_
    refine lv_iconst (v := nI 4) hx hb dL_law_325 (by decide) ?_
    obtain ⟨b1, hb1, eb1⟩ := bel_ex y (N := 4) (by omega) (by omega)
    refine rd_S (As := [.int y, .int (nI 4)]) (rest := [.ref (A0 s.heap.size 0)]) (v := some (.int (bel y (nI 4)))) S hG (c_L_below l G H y (nI 4) (by decide)) gL_law_L_below rfl ⟨rfl, rfl⟩ nq_below ⟨Nat.le_of_ble_eq_true rfl, Nat.le_of_ble_eq_true rfl⟩ rfl hl.1 rfl (Nat.le_of_ble_eq_true rfl) ⟨by show cells ≤ 687763; omega, by show slots ≤ 7038409; omega⟩ dL_law_326 ?_
    refine W.eq (g2 := F0 m 329 ls [.int (bel y (nI 4)), .ref (A0 s.heap.size 0)]) rfl ?_
    rw [eb1]
    refine lv_if_ne (tgt := 346) hx hb dL_law_329 (by decide) (fun c6 => ?_) (fun c6 => ?_)
    · refine lv_iload hx hb dL_law_346 (lv_at hl 5 rfl) ?_
      refine lv_iconst (v := nI 2) hx hb dL_law_348 (by decide) ?_
      refine lv_ishr hx hb dL_law_349 ?_
      refine lv_bipush (v := nI 61) hx hb dL_law_350 (by decide) ?_
      obtain ⟨b2, hb2, eb2⟩ := bel_ex (y >>> ((nI 2) &&& 31)) (N := 61) (by omega) (by omega)
      refine rd_S (As := [.int (y >>> ((nI 2) &&& 31)), .int (nI 61)]) (rest := [.ref (A0 s.heap.size 0)]) (v := some (.int (bel (y >>> ((nI 2) &&& 31)) (nI 61)))) S hG (c_L_below l G H (y >>> ((nI 2) &&& 31)) (nI 61) (by decide)) gL_law_L_below rfl ⟨rfl, rfl⟩ nq_below ⟨Nat.le_of_ble_eq_true rfl, Nat.le_of_ble_eq_true rfl⟩ rfl hl.1 rfl (Nat.le_of_ble_eq_true rfl) ⟨by show cells ≤ 687763; omega, by show slots ≤ 7038409; omega⟩ dL_law_352 ?_
      refine W.eq (g2 := F0 m 355 ls [.int (bel (y >>> ((nI 2) &&& 31)) (nI 61)), .ref (A0 s.heap.size 0)]) rfl ?_
      rw [eb2]
      exact k355 (nI b2) (by rw [znI (by omega)]; omega)
    · refine lv_iconst (v := (-1)) hx hb dL_law_332 (by decide) ?_
      refine lv_iload hx hb dL_law_333 (lv_at hl 5 rfl) ?_
      refine lv_iconst (v := nI 2) hx hb dL_law_335 (by decide) ?_
      refine lv_ishr hx hb dL_law_336 ?_
      refine lv_bipush (v := nI 20) hx hb dL_law_337 (by decide) ?_
      obtain ⟨b2, hb2, eb2⟩ := bel_ex (y >>> ((nI 2) &&& 31)) (N := 20) (by omega) (by omega)
      refine rd_S (As := [.int (y >>> ((nI 2) &&& 31)), .int (nI 20)]) (rest := [.int (-1), .ref (A0 s.heap.size 0)]) (v := some (.int (bel (y >>> ((nI 2) &&& 31)) (nI 20)))) S hG (c_L_below l G H (y >>> ((nI 2) &&& 31)) (nI 20) (by decide)) gL_law_L_below rfl ⟨rfl, rfl⟩ nq_below ⟨Nat.le_of_ble_eq_true rfl, Nat.le_of_ble_eq_true rfl⟩ rfl hl.1 rfl (Nat.le_of_ble_eq_true rfl) ⟨by show cells ≤ 687763; omega, by show slots ≤ 7038409; omega⟩ dL_law_339 ?_
      refine W.eq (g2 := F0 m 342 ls [.int (bel (y >>> ((nI 2) &&& 31)) (nI 20)), .int (-1), .ref (A0 s.heap.size 0)]) rfl ?_
      rw [eb2]
      refine lv_isub hx hb dL_law_342 ?_
      have hX9 : -20 ≤ ((-1 : Int32) - nI b2).toInt ∧ ((-1 : Int32) - nI b2).toInt ≤ 60 := by rw [zsub (by rw [zm1]; omega) (by rw [znI (by omega)]; omega), znI (by omega), zm1]; omega
      refine lv_goto (tgt := 355) hx hb dL_law_343 (by decide) ?_
      exact k355 _ hX9
  · refine lv_icmp_ge (tgt := 712) hx hb dL_law_319 (by decide) (fun _ => ?_) (fun c => absurd (nI_le (by omega) (by omega)) c)
    exact kk H locs f g cells slots ls hR hI hS hG rfl (by omega) (by omega) (lv_sub hl [8, 7, 10, 11, 9] rfl)
end QLW
