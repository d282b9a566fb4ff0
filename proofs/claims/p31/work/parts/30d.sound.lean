set_option maxHeartbeats 4000000 in
set_option maxRecDepth 100000 in
theorem c_L_isSound (l : Launch) (G : GT) (hlf : l.stackTraces = false) (A : Nat → Nat) (f : Nat → Nat → Int32) (g : Nat → Nat) (H : Heap) (hR : RP G A f g H) (h : IV f g) : PrV l G H yL_isSound wsL_isSound { frames := 10, cells := 1, slots := 6, locals := 200 } [.ref (A 0), .int (nI (g 3)), .int (nI (g 7))] (some (.int 1)) := by
  refine pr_of (cc := cL_isSound) (maxL := 12) (ret := (some .boolean)) (by decide) rfl (Nat.le_of_ble_eq_true rfl) ?_
  intro pZ eZ sZ mZ bZ meZ cZ ls S hr hlk hl hHs hG
  have S : CallFix pZ mZ cZ cL_isSound 12 sZ _ wsL_isSound RL := S
  have hx := S.1
  have hb := S.2.1
  have hown := S.2.2.2.1
  have hts := S.2.2.2.2
  have hl : lv_has ls 12 [(0, .ref (A 0)), (1, .int (nI (g 3))), (2, .int (nI (g 7)))] := hl
  have hg0 := h.1.1.1
  have hg1 := h.1.1.2.1
  have hg3 := h.1.1.2.2.1
  have hg4 := h.1.1.2.2.2.1
  have hg5 := h.1.1.2.2.2.2.1
  have hg7 := h.1.1.2.2.2.2.2
  have k353 : ∀ (ls : Array Slot), lv_has ls 12 [(4, .int (mk4 (g 3) (fun j => isUn f g (nI j) (nI (g 0))))), (0, .ref (A 0)), (1, .int (nI (g 3))), (2, .int (nI (g 7))), (3, .int (nI (g 0)))] → W pZ l eZ { frames := 10, cells := 1, slots := 6, locals := 200 } sZ mZ ([.ref (A 0), .int (nI (g 3)), .int (nI (g 7))] : List Value).toArray bZ meZ cZ H [] 0 0 (pr_Q bZ H [.ref (A 0), .int (nI (g 3)), .int (nI (g 7))] sZ (some (.int 1))) (F0 mZ 353 ls []) := by
    intro ls hl
    refine lv_iload hx hb dL_isSound_353 (lv_at hl 0 rfl) ?_
    refine lv_aload_n hx hb dL_isSound_355 rfl (lv_at hl 1 rfl) ?_
    refine lv_bipush (v := nI 7) hx hb dL_isSound_356 (by decide) ?_
    refine pr_V (As := [.int (nI 7)]) (rest := [.int (mk4 (g 3) (fun j => isUn f g (nI j) (nI (g 0))))]) (v := some (.int (mny f g (nI 7)))) S hG (c_X7_many l G hlf A f g H hR (nI 7)) (k_man (by decide)) gL_isSound_X7_many rfl ⟨rfl, rfl⟩ np_many ⟨Nat.le_of_ble_eq_true rfl, Nat.le_of_ble_eq_true rfl⟩ (rd_rcv hG.1 (rP_0 hR) rfl) rfl hl.1 rfl (Nat.le_of_ble_eq_true rfl) ⟨Nat.le_of_ble_eq_true rfl, Nat.le_of_ble_eq_true rfl⟩ dL_isSound_358 ?_
    refine W.eq (g2 := F0 mZ 361 ls [.int (mny f g (nI 7)), .int (mk4 (g 3) (fun j => isUn f g (nI j) (nI (g 0))))]) rfl ?_
    rw [my_7]
    refine lv_icmp_ne (tgt := 378) hx hb dL_isSound_361 (by decide) (fun c => absurd rfl c) (fun _ => ?_)
    refine lv_iload_n hx hb dL_isSound_364 rfl (lv_at hl 3 rfl) ?_
    refine lv_aload_n hx hb dL_isSound_365 rfl (lv_at hl 1 rfl) ?_
    refine lv_bipush (v := nI 8) hx hb dL_isSound_366 (by decide) ?_
    refine pr_V (As := [.int (nI 8)]) (rest := [.int (nI (g 7))]) (v := some (.int (mny f g (nI 8)))) S hG (c_X7_many l G hlf A f g H hR (nI 8)) (k_man (by decide)) gL_isSound_X7_many rfl ⟨rfl, rfl⟩ np_many ⟨Nat.le_of_ble_eq_true rfl, Nat.le_of_ble_eq_true rfl⟩ (rd_rcv hG.1 (rP_0 hR) rfl) rfl hl.1 rfl (Nat.le_of_ble_eq_true rfl) ⟨Nat.le_of_ble_eq_true rfl, Nat.le_of_ble_eq_true rfl⟩ dL_isSound_368 ?_
    refine W.eq (g2 := F0 mZ 371 ls [.int (mny f g (nI 8)), .int (nI (g 7))]) rfl ?_
    rw [my_8]
    refine lv_icmp_ne (tgt := 378) hx hb dL_isSound_371 (by decide) (fun c => absurd rfl c) (fun _ => ?_)
    refine lv_iconst (v := nI 1) hx hb dL_isSound_374 (by decide) ?_
    refine lv_goto (tgt := 379) hx hb dL_isSound_375 (by decide) ?_
    exact pr_zret S hr hlk dL_isSound_379 rfl rfl
  have loop65 : ∀ (n k : Nat), k + n = g 3 → ∀ (ls : Array Slot), lv_has ls 12 [(6, .int (nI k)), (4, .int (mk4 k (fun j => isUn f g (nI j) (nI (g 0))))), (0, .ref (A 0)), (1, .int (nI (g 3))), (2, .int (nI (g 7))), (3, .int (nI (g 0)))] → W pZ l eZ { frames := 10, cells := 1, slots := 6, locals := 200 } sZ mZ ([.ref (A 0), .int (nI (g 3)), .int (nI (g 7))] : List Value).toArray bZ meZ cZ H [] 0 0 (pr_Q bZ H [.ref (A 0), .int (nI (g 3)), .int (nI (g 7))] sZ (some (.int 1))) (F0 mZ 65 ls []) := by
    intro n
    induction n with
    | zero =>
      intro k hk ls hl
      have e9 : k = g 3 := by omega
      subst e9
      refine lv_iload hx hb dL_isSound_65 (lv_at hl 0 rfl) ?_
      refine lv_iload_n hx hb dL_isSound_67 rfl (lv_at hl 3 rfl) ?_
      refine lv_icmp_ge (tgt := 353) hx hb dL_isSound_68 (by decide) (fun _ => ?_) (fun c => absurd (Int32.le_refl _) c)
      exact k353 ls (lv_sub hl [1, 2, 3, 4, 5] rfl)
    | succ n ih =>
      intro k hk ls hl
      have hkl : k < g 3 := by omega
      have k347 : ∀ (ls : Array Slot), lv_has ls 12 [(6, .int (nI k)), (4, .int (mk4 (k + 1) (fun j => isUn f g (nI j) (nI (g 0))))), (0, .ref (A 0)), (1, .int (nI (g 3))), (2, .int (nI (g 7))), (3, .int (nI (g 0)))] → W pZ l eZ { frames := 10, cells := 1, slots := 6, locals := 200 } sZ mZ ([.ref (A 0), .int (nI (g 3)), .int (nI (g 7))] : List Value).toArray bZ meZ cZ H [] 0 0 (pr_Q bZ H [.ref (A 0), .int (nI (g 3)), .int (nI (g 7))] sZ (some (.int 1))) (F0 mZ 347 ls []) := by
        intro ls hl
        refine lv_iinc (v := nI (k + 1)) (lv' := [(6, .int (nI (k + 1))), (4, .int (mk4 (k + 1) (fun j => isUn f g (nI j) (nI (g 0))))), (0, .ref (A 0)), (1, .int (nI (g 3))), (2, .int (nI (g 7))), (3, .int (nI (g 0)))]) hx hb dL_isSound_347 hl (k := 0) rfl (nI_inc _) (by decide) rfl (fun ls hl => ?_)
        refine lv_goto (tgt := 65) hx hb dL_isSound_350 (by decide) ?_
        exact ih (k + 1) (by omega) ls (lv_sub hl [0, 1, 2, 3, 4, 5] rfl)
      have k289 : ∀ (ls : Array Slot), lv_has ls 12 [(6, .int (nI k)), (4, .int (mk4 (k + 1) (fun j => isUn f g (nI j) (nI (g 0))))), (0, .ref (A 0)), (1, .int (nI (g 3))), (2, .int (nI (g 7))), (3, .int (nI (g 0)))] → W pZ l eZ { frames := 10, cells := 1, slots := 6, locals := 200 } sZ mZ ([.ref (A 0), .int (nI (g 3)), .int (nI (g 7))] : List Value).toArray bZ meZ cZ H [] 0 0 (pr_Q bZ H [.ref (A 0), .int (nI (g 3)), .int (nI (g 7))] sZ (some (.int 1))) (F0 mZ 289 ls []) := by
        intro ls hl
        rcases dcd_c (f := f) (g := g) (p := nI k) (d := nI (g 0)) (by omega) with hd | ⟨j, j1, j2, j3⟩
        · refine lv_aload_n hx hb dL_isSound_289 rfl (lv_at hl 2 rfl) ?_
          refine lv_iload hx hb dL_isSound_290 (lv_at hl 0 rfl) ?_
          refine lv_iload_n hx hb dL_isSound_292 rfl (lv_at hl 5 rfl) ?_
          refine pr_V (As := [.int (nI k), .int (nI (g 0))]) (rest := []) (v := some (.int (dcd f g (nI k) (nI (g 0))))) S hG (c_X7_decides l G hlf A f g H hR (nI k) (nI (g 0))) (kOr_nn (k_ix (by omega) (by omega)) (k_day hg0)) gL_isSound_X7_decides rfl ⟨rfl, rfl⟩ np_decides ⟨Nat.le_of_ble_eq_true rfl, Nat.le_of_ble_eq_true rfl⟩ (rd_rcv hG.1 (rP_0 hR) rfl) rfl hl.1 rfl (Nat.le_of_ble_eq_true rfl) ⟨Nat.le_of_ble_eq_true rfl, Nat.le_of_ble_eq_true rfl⟩ dL_isSound_293 ?_
          refine W.eq (g2 := F0 mZ 296 ls [.int (dcd f g (nI k) (nI (g 0)))]) rfl ?_
          rw [hd]
          refine lv_istore (lv' := [(11, .int (-1)), (6, .int (nI k)), (4, .int (mk4 (k + 1) (fun j => isUn f g (nI j) (nI (g 0))))), (0, .ref (A 0)), (1, .int (nI (g 3))), (2, .int (nI (g 7))), (3, .int (nI (g 0)))]) hx hb dL_isSound_296 hl (by decide) rfl (fun ls hl => ?_)
          refine lv_iload hx hb dL_isSound_298 (lv_at hl 0 rfl) ?_
          refine lv_if_lt (tgt := 335) hx hb dL_isSound_300 (by decide) (fun _ => ?_) (fun c => absurd m1_lt c)
          refine lv_iload hx hb dL_isSound_335 (lv_at hl 0 rfl) ?_
          refine lv_aload_n hx hb dL_isSound_337 rfl (lv_at hl 3 rfl) ?_
          refine lv_iconst (v := nI 0) hx hb dL_isSound_338 (by decide) ?_
          refine pr_V (As := [.int (nI 0)]) (rest := [.int (-1)]) (v := some (.int (mny f g (nI 0)))) S hG (c_X7_many l G hlf A f g H hR (nI 0)) (k_man (by decide)) gL_isSound_X7_many rfl ⟨rfl, rfl⟩ np_many ⟨Nat.le_of_ble_eq_true rfl, Nat.le_of_ble_eq_true rfl⟩ (rd_rcv hG.1 (rP_0 hR) rfl) rfl hl.1 rfl (Nat.le_of_ble_eq_true rfl) ⟨Nat.le_of_ble_eq_true rfl, Nat.le_of_ble_eq_true rfl⟩ dL_isSound_339 ?_
          refine W.eq (g2 := F0 mZ 342 ls [.int (mny f g (nI 0)), .int (-1)]) rfl ?_
          rw [my_0]
          refine lv_icmp_lt (tgt := 347) hx hb dL_isSound_342 (by decide) (fun _ => ?_) (fun c => absurd (m1_nI (by omega)) c)
          exact k347 ls (lv_sub hl [1, 2, 3, 4, 5, 6] rfl)
        · have k335 : ∀ (ls : Array Slot), lv_has ls 12 [(11, .int (nI j)), (6, .int (nI k)), (4, .int (mk4 (k + 1) (fun j => isUn f g (nI j) (nI (g 0))))), (0, .ref (A 0)), (1, .int (nI (g 3))), (2, .int (nI (g 7))), (3, .int (nI (g 0)))] → W pZ l eZ { frames := 10, cells := 1, slots := 6, locals := 200 } sZ mZ ([.ref (A 0), .int (nI (g 3)), .int (nI (g 7))] : List Value).toArray bZ meZ cZ H [] 0 0 (pr_Q bZ H [.ref (A 0), .int (nI (g 3)), .int (nI (g 7))] sZ (some (.int 1))) (F0 mZ 335 ls []) := by
            intro ls hl
            refine lv_iload hx hb dL_isSound_335 (lv_at hl 0 rfl) ?_
            refine lv_aload_n hx hb dL_isSound_337 rfl (lv_at hl 3 rfl) ?_
            refine lv_iconst (v := nI 0) hx hb dL_isSound_338 (by decide) ?_
            refine pr_V (As := [.int (nI 0)]) (rest := [.int (nI j)]) (v := some (.int (mny f g (nI 0)))) S hG (c_X7_many l G hlf A f g H hR (nI 0)) (k_man (by decide)) gL_isSound_X7_many rfl ⟨rfl, rfl⟩ np_many ⟨Nat.le_of_ble_eq_true rfl, Nat.le_of_ble_eq_true rfl⟩ (rd_rcv hG.1 (rP_0 hR) rfl) rfl hl.1 rfl (Nat.le_of_ble_eq_true rfl) ⟨Nat.le_of_ble_eq_true rfl, Nat.le_of_ble_eq_true rfl⟩ dL_isSound_339 ?_
            refine W.eq (g2 := F0 mZ 342 ls [.int (mny f g (nI 0)), .int (nI j)]) rfl ?_
            rw [my_0]
            refine lv_icmp_lt (tgt := 347) hx hb dL_isSound_342 (by decide) (fun _ => ?_) (fun c => absurd (nI_lt j1 (by omega)) c)
            exact k347 ls (lv_sub hl [1, 2, 3, 4, 5, 6] rfl)
          refine lv_aload_n hx hb dL_isSound_289 rfl (lv_at hl 2 rfl) ?_
          refine lv_iload hx hb dL_isSound_290 (lv_at hl 0 rfl) ?_
          refine lv_iload_n hx hb dL_isSound_292 rfl (lv_at hl 5 rfl) ?_
          refine pr_V (As := [.int (nI k), .int (nI (g 0))]) (rest := []) (v := some (.int (dcd f g (nI k) (nI (g 0))))) S hG (c_X7_decides l G hlf A f g H hR (nI k) (nI (g 0))) (kOr_nn (k_ix (by omega) (by omega)) (k_day hg0)) gL_isSound_X7_decides rfl ⟨rfl, rfl⟩ np_decides ⟨Nat.le_of_ble_eq_true rfl, Nat.le_of_ble_eq_true rfl⟩ (rd_rcv hG.1 (rP_0 hR) rfl) rfl hl.1 rfl (Nat.le_of_ble_eq_true rfl) ⟨Nat.le_of_ble_eq_true rfl, Nat.le_of_ble_eq_true rfl⟩ dL_isSound_293 ?_
          refine W.eq (g2 := F0 mZ 296 ls [.int (dcd f g (nI k) (nI (g 0)))]) rfl ?_
          rw [j2]
          refine lv_istore (lv' := [(11, .int (nI j)), (6, .int (nI k)), (4, .int (mk4 (k + 1) (fun j => isUn f g (nI j) (nI (g 0))))), (0, .ref (A 0)), (1, .int (nI (g 3))), (2, .int (nI (g 7))), (3, .int (nI (g 0)))]) hx hb dL_isSound_296 hl (by decide) rfl (fun ls hl => ?_)
          refine lv_iload hx hb dL_isSound_298 (lv_at hl 0 rfl) ?_
          refine lv_if_lt (tgt := 335) hx hb dL_isSound_300 (by decide) (fun c => absurd c (nI_pos (by omega))) (fun _ => ?_)
          refine lv_aload_n hx hb dL_isSound_303 rfl (lv_at hl 3 rfl) ?_
          refine lv_iload hx hb dL_isSound_304 (lv_at hl 0 rfl) ?_
          refine lv_iconst (v := nI 3) hx hb dL_isSound_306 (by decide) ?_
          refine pr_V (As := [.int (nI j), .int (nI 3)]) (rest := []) (v := some (.int (ofOb f (nI j) (nI 3)))) S hG (c_X7_ofObstacle l G hlf A f g H hR (nI j) (nI 3)) (kOr_nn (k_ix j1 (by omega)) (by decide)) gL_isSound_X7_ofObstacle rfl ⟨rfl, rfl⟩ np_ofObstacle ⟨Nat.le_of_ble_eq_true rfl, Nat.le_of_ble_eq_true rfl⟩ (rd_rcv hG.1 (rP_0 hR) rfl) rfl hl.1 rfl (Nat.le_of_ble_eq_true rfl) ⟨Nat.le_of_ble_eq_true rfl, Nat.le_of_ble_eq_true rfl⟩ dL_isSound_307 ?_
          refine W.eq (g2 := F0 mZ 310 ls [.int (ofOb f (nI j) (nI 3))]) rfl ?_
          rw [ob_3]
          refine lv_iload_n hx hb dL_isSound_310 rfl (lv_at hl 6 rfl) ?_
          refine lv_icmp_gt (tgt := 345) hx hb dL_isSound_311 (by decide) (fun c => absurd c ((of_decide_eq_true j3).1)) (fun _ => ?_)
          refine lv_aload_n hx hb dL_isSound_314 rfl (lv_at hl 3 rfl) ?_
          refine lv_iload hx hb dL_isSound_315 (lv_at hl 0 rfl) ?_
          refine lv_iconst (v := nI 4) hx hb dL_isSound_317 (by decide) ?_
          refine pr_V (As := [.int (nI j), .int (nI 4)]) (rest := []) (v := some (.int (ofOb f (nI j) (nI 4)))) S hG (c_X7_ofObstacle l G hlf A f g H hR (nI j) (nI 4)) (kOr_nn (k_ix j1 (by omega)) (by decide)) gL_isSound_X7_ofObstacle rfl ⟨rfl, rfl⟩ np_ofObstacle ⟨Nat.le_of_ble_eq_true rfl, Nat.le_of_ble_eq_true rfl⟩ (rd_rcv hG.1 (rP_0 hR) rfl) rfl hl.1 rfl (Nat.le_of_ble_eq_true rfl) ⟨Nat.le_of_ble_eq_true rfl, Nat.le_of_ble_eq_true rfl⟩ dL_isSound_318 ?_
          refine W.eq (g2 := F0 mZ 321 ls [.int (ofOb f (nI j) (nI 4))]) rfl ?_
          rw [ob_4]
          refine lv_if_lt (tgt := 335) hx hb dL_isSound_321 (by decide) (fun c4 => ?_) (fun c4 => ?_)
          · exact k335 ls (lv_sub hl [0, 1, 2, 3, 4, 5, 6] rfl)
          · refine lv_aload_n hx hb dL_isSound_324 rfl (lv_at hl 3 rfl) ?_
            refine lv_iload hx hb dL_isSound_325 (lv_at hl 0 rfl) ?_
            refine lv_iconst (v := nI 4) hx hb dL_isSound_327 (by decide) ?_
            refine pr_V (As := [.int (nI j), .int (nI 4)]) (rest := []) (v := some (.int (ofOb f (nI j) (nI 4)))) S hG (c_X7_ofObstacle l G hlf A f g H hR (nI j) (nI 4)) (kOr_nn (k_ix j1 (by omega)) (by decide)) gL_isSound_X7_ofObstacle rfl ⟨rfl, rfl⟩ np_ofObstacle ⟨Nat.le_of_ble_eq_true rfl, Nat.le_of_ble_eq_true rfl⟩ (rd_rcv hG.1 (rP_0 hR) rfl) rfl hl.1 rfl (Nat.le_of_ble_eq_true rfl) ⟨Nat.le_of_ble_eq_true rfl, Nat.le_of_ble_eq_true rfl⟩ dL_isSound_328 ?_
            refine W.eq (g2 := F0 mZ 331 ls [.int (ofOb f (nI j) (nI 4))]) rfl ?_
            rw [ob_4]
            refine lv_iload_n hx hb dL_isSound_331 rfl (lv_at hl 6 rfl) ?_
            refine lv_icmp_lt (tgt := 345) hx hb dL_isSound_332 (by decide) (fun c => absurd c ((of_decide_eq_true j3).2.elim (fun z => absurd (by rw [z]; exact m1_lt) c4) id)) (fun _ => ?_)
            exact k335 ls (lv_sub hl [0, 1, 2, 3, 4, 5, 6] rfl)
      have k212 : ∀ (ls : Array Slot), lv_has ls 12 [(6, .int (nI k)), (4, .int (mk4 (k + 1) (fun j => isUn f g (nI j) (nI (g 0))))), (0, .ref (A 0)), (1, .int (nI (g 3))), (2, .int (nI (g 7))), (3, .int (nI (g 0)))] → W pZ l eZ { frames := 10, cells := 1, slots := 6, locals := 200 } sZ mZ ([.ref (A 0), .int (nI (g 3)), .int (nI (g 7))] : List Value).toArray bZ meZ cZ H [] 0 0 (pr_Q bZ H [.ref (A 0), .int (nI (g 3)), .int (nI (g 7))] sZ (some (.int 1))) (F0 mZ 212 ls []) := by
        intro ls hl
        rcases uo_c (f := f) hg0 (nI k) with ⟨u1, u2⟩ | ⟨d, d1, d2, u1, u2, u3⟩
        · refine lv_aload_n hx hb dL_isSound_212 rfl (lv_at hl 2 rfl) ?_
          refine lv_iload hx hb dL_isSound_213 (lv_at hl 0 rfl) ?_
          refine pr_V (As := [.int (nI k)]) (rest := []) (v := some (.int (uOn f g (nI k) (400 - g 0) 0))) S hG (c_X7_unsafeOn l G hlf A f g H hR (nI k) hg0) (k_ix (by omega) (by omega)) gL_isSound_X7_unsafeOn rfl ⟨rfl, rfl⟩ np_unsafeOn ⟨Nat.le_of_ble_eq_true rfl, Nat.le_of_ble_eq_true rfl⟩ (rd_rcv hG.1 (rP_0 hR) rfl) rfl hl.1 rfl (Nat.le_of_ble_eq_true rfl) ⟨Nat.le_of_ble_eq_true rfl, Nat.le_of_ble_eq_true rfl⟩ dL_isSound_215 ?_
          refine W.eq (g2 := F0 mZ 218 ls [.int (uOn f g (nI k) (400 - g 0) 0)]) rfl ?_
          rw [u1]
          refine lv_istore (lv' := [(10, .int (-1)), (6, .int (nI k)), (4, .int (mk4 (k + 1) (fun j => isUn f g (nI j) (nI (g 0))))), (0, .ref (A 0)), (1, .int (nI (g 3))), (2, .int (nI (g 7))), (3, .int (nI (g 0)))]) hx hb dL_isSound_218 hl (by decide) rfl (fun ls hl => ?_)
          refine lv_iload hx hb dL_isSound_220 (lv_at hl 0 rfl) ?_
          refine lv_if_lt (tgt := 258) hx hb dL_isSound_222 (by decide) (fun _ => ?_) (fun c => absurd m1_lt c)
          refine lv_iload hx hb dL_isSound_258 (lv_at hl 0 rfl) ?_
          refine lv_iload_n hx hb dL_isSound_260 rfl (lv_at hl 6 rfl) ?_
          refine lv_icmp_ne (tgt := 268) hx hb dL_isSound_261 (by decide) (fun _ => ?_) (fun c => absurd c (fun z => nI_m1 (by omega) z.symm))
          refine lv_iconst (v := nI 0) hx hb dL_isSound_268 (by decide) ?_
          refine lv_iload hx hb dL_isSound_269 (lv_at hl 2 rfl) ?_
          refine lv_iload hx hb dL_isSound_271 (lv_at hl 1 rfl) ?_
          refine lv_ishr hx hb dL_isSound_273 ?_
          refine lv_iconst (v := nI 1) hx hb dL_isSound_274 (by decide) ?_
          refine lv_iand hx hb dL_isSound_275 ?_
          rw [un_bit hg3 hkl, if_neg (u2 (g 0) (Nat.le_refl _) hg0)]
          refine lv_if_le (tgt := 283) hx hb dL_isSound_276 (by decide) (fun _ => ?_) (fun c => absurd (by decide) c)
          refine lv_iconst (v := nI 0) hx hb dL_isSound_283 (by decide) ?_
          refine lv_icmp_eq (tgt := 289) hx hb dL_isSound_284 (by decide) (fun _ => ?_) (fun c => absurd rfl c)
          exact k289 ls (lv_sub hl [1, 2, 3, 4, 5, 6] rfl)
        · obtain ⟨q5, q6, q7, q8⟩ := lH_q h.1 hkl (nI d) (-1)
          rcases hI_c h (nI k) (nI d) with hn5 | ⟨ch5, r5, c51, c52, c53, c54, c55, c56, c57⟩
          · exact absurd u2 (isUn_n hn5)
          · have hlt := (isUn_p c56 q8 (by omega) (by omega)).mp u2
            refine lv_aload_n hx hb dL_isSound_212 rfl (lv_at hl 2 rfl) ?_
            refine lv_iload hx hb dL_isSound_213 (lv_at hl 0 rfl) ?_
            refine pr_V (As := [.int (nI k)]) (rest := []) (v := some (.int (uOn f g (nI k) (400 - g 0) 0))) S hG (c_X7_unsafeOn l G hlf A f g H hR (nI k) hg0) (k_ix (by omega) (by omega)) gL_isSound_X7_unsafeOn rfl ⟨rfl, rfl⟩ np_unsafeOn ⟨Nat.le_of_ble_eq_true rfl, Nat.le_of_ble_eq_true rfl⟩ (rd_rcv hG.1 (rP_0 hR) rfl) rfl hl.1 rfl (Nat.le_of_ble_eq_true rfl) ⟨Nat.le_of_ble_eq_true rfl, Nat.le_of_ble_eq_true rfl⟩ dL_isSound_215 ?_
            refine W.eq (g2 := F0 mZ 218 ls [.int (uOn f g (nI k) (400 - g 0) 0)]) rfl ?_
            rw [u1]
            refine lv_istore (lv' := [(10, .int (nI d)), (6, .int (nI k)), (4, .int (mk4 (k + 1) (fun j => isUn f g (nI j) (nI (g 0))))), (0, .ref (A 0)), (1, .int (nI (g 3))), (2, .int (nI (g 7))), (3, .int (nI (g 0)))]) hx hb dL_isSound_218 hl (by decide) rfl (fun ls hl => ?_)
            refine lv_iload hx hb dL_isSound_220 (lv_at hl 0 rfl) ?_
            refine lv_if_lt (tgt := 258) hx hb dL_isSound_222 (by decide) (fun c => absurd c (nI_pos (by omega))) (fun _ => ?_)
            refine lv_aload_n hx hb dL_isSound_225 rfl (lv_at hl 3 rfl) ?_
            refine lv_iload hx hb dL_isSound_226 (lv_at hl 1 rfl) ?_
            refine lv_iload hx hb dL_isSound_228 (lv_at hl 0 rfl) ?_
            refine lv_iconst (v := nI 0) hx hb dL_isSound_230 (by decide) ?_
            refine pr_V (As := [.int (nI k), .int (nI d), .int (nI 0)]) (rest := []) (v := some (.int (fCat (hIF f g (nI k) (nI d)) (nI 0)))) S hG (c_X7_inForce l G hlf A f g H hR (nI k) (nI d) (nI 0)) (kOr_nn (k_ix (by omega) (by omega)) (kOr_nn (k_day d2) (by decide))) gL_isSound_X7_inForce rfl ⟨rfl, rfl⟩ np_inForce ⟨Nat.le_of_ble_eq_true rfl, Nat.le_of_ble_eq_true rfl⟩ (rd_rcv hG.1 (rP_0 hR) rfl) rfl hl.1 rfl (Nat.le_of_ble_eq_true rfl) ⟨Nat.le_of_ble_eq_true rfl, Nat.le_of_ble_eq_true rfl⟩ dL_isSound_231 ?_
            refine W.eq (g2 := F0 mZ 234 ls [.int (fCat (hIF f g (nI k) (nI d)) (nI 0))]) rfl ?_
            rw [c56, fc_p (by omega)]
            refine lv_aload_n hx hb dL_isSound_234 rfl (lv_at hl 3 rfl) ?_
            refine lv_iload hx hb dL_isSound_235 (lv_at hl 1 rfl) ?_
            refine lv_iload hx hb dL_isSound_237 (lv_at hl 0 rfl) ?_
            refine lv_iconst (v := nI 0) hx hb dL_isSound_239 (by decide) ?_
            refine pr_V (As := [.int (nI k), .int (nI d), .int (nI 0)]) (rest := [.int (nI (ch5 + r5 + 10 * 0))]) (v := some (.int (lH f g (nI k) (nI d) (-1) + 10 * nI 0))) S hG (c_X7_demanded l G hlf A f g H hR (nI k) (nI d) (nI 0)) (kOr_nn (k_ix (by omega) (by omega)) (kOr_nn (k_day d2) (by decide))) gL_isSound_X7_demanded rfl ⟨rfl, rfl⟩ np_demanded ⟨Nat.le_of_ble_eq_true rfl, Nat.le_of_ble_eq_true rfl⟩ (rd_rcv hG.1 (rP_0 hR) rfl) rfl hl.1 rfl (Nat.le_of_ble_eq_true rfl) ⟨Nat.le_of_ble_eq_true rfl, Nat.le_of_ble_eq_true rfl⟩ dL_isSound_240 ?_
            refine W.eq (g2 := F0 mZ 243 ls [.int (lH f g (nI k) (nI d) (-1) + 10 * nI 0), .int (nI (ch5 + r5 + 10 * 0))]) rfl ?_
            rw [q8, dm_c]
            refine lv_icmp_ge (tgt := 287) hx hb dL_isSound_243 (by decide) (fun c => absurd c (nI_ge (by omega) (by omega))) (fun _ => ?_)
            refine lv_aload_n hx hb dL_isSound_246 rfl (lv_at hl 3 rfl) ?_
            refine lv_iload hx hb dL_isSound_247 (lv_at hl 1 rfl) ?_
            refine lv_iload hx hb dL_isSound_249 (lv_at hl 0 rfl) ?_
            refine lv_iconst (v := nI 0) hx hb dL_isSound_251 (by decide) ?_
            refine pr_V (As := [.int (nI k), .int (nI d), .int (nI 0)]) (rest := []) (v := some (.int (fCat (hIF f g (nI k) (nI d)) (nI 0)))) S hG (c_X7_inForce l G hlf A f g H hR (nI k) (nI d) (nI 0)) (kOr_nn (k_ix (by omega) (by omega)) (kOr_nn (k_day d2) (by decide))) gL_isSound_X7_inForce rfl ⟨rfl, rfl⟩ np_inForce ⟨Nat.le_of_ble_eq_true rfl, Nat.le_of_ble_eq_true rfl⟩ (rd_rcv hG.1 (rP_0 hR) rfl) rfl hl.1 rfl (Nat.le_of_ble_eq_true rfl) ⟨Nat.le_of_ble_eq_true rfl, Nat.le_of_ble_eq_true rfl⟩ dL_isSound_252 ?_
            refine W.eq (g2 := F0 mZ 255 ls [.int (fCat (hIF f g (nI k) (nI d)) (nI 0))]) rfl ?_
            rw [c56, fc_p (by omega)]
            refine lv_if_lt (tgt := 287) hx hb dL_isSound_255 (by decide) (fun c => absurd c (nI_pos (by omega))) (fun _ => ?_)
            refine lv_iload hx hb dL_isSound_258 (lv_at hl 0 rfl) ?_
            refine lv_iload_n hx hb dL_isSound_260 rfl (lv_at hl 6 rfl) ?_
            by_cases hd : d = g 0
            · refine lv_icmp_ne (tgt := 268) hx hb dL_isSound_261 (by decide) (fun c => absurd (congrArg nI hd) c) (fun _ => ?_)
              refine lv_iconst (v := nI 1) hx hb dL_isSound_264 (by decide) ?_
              refine lv_goto (tgt := 269) hx hb dL_isSound_265 (by decide) ?_
              refine lv_iload hx hb dL_isSound_269 (lv_at hl 2 rfl) ?_
              refine lv_iload hx hb dL_isSound_271 (lv_at hl 1 rfl) ?_
              refine lv_ishr hx hb dL_isSound_273 ?_
              refine lv_iconst (v := nI 1) hx hb dL_isSound_274 (by decide) ?_
              refine lv_iand hx hb dL_isSound_275 ?_
              rw [un_bit hg3 hkl, if_pos (hd ▸ u2)]
              refine lv_if_le (tgt := 283) hx hb dL_isSound_276 (by decide) (fun c => absurd c (by decide)) (fun _ => ?_)
              refine lv_iconst (v := nI 1) hx hb dL_isSound_279 (by decide) ?_
              refine lv_goto (tgt := 284) hx hb dL_isSound_280 (by decide) ?_
              refine lv_icmp_eq (tgt := 289) hx hb dL_isSound_284 (by decide) (fun _ => ?_) (fun c => absurd rfl c)
              exact k289 ls (lv_sub hl [1, 2, 3, 4, 5, 6] rfl)
            · refine lv_icmp_ne (tgt := 268) hx hb dL_isSound_261 (by decide) (fun _ => ?_) (fun c => absurd c (fun z => hd ((nI_eq (by omega) (by omega)).mp z)))
              refine lv_iconst (v := nI 0) hx hb dL_isSound_268 (by decide) ?_
              refine lv_iload hx hb dL_isSound_269 (lv_at hl 2 rfl) ?_
              refine lv_iload hx hb dL_isSound_271 (lv_at hl 1 rfl) ?_
              refine lv_ishr hx hb dL_isSound_273 ?_
              refine lv_iconst (v := nI 1) hx hb dL_isSound_274 (by decide) ?_
              refine lv_iand hx hb dL_isSound_275 ?_
              rw [un_bit hg3 hkl, if_neg (u3 (g 0) (Nat.le_refl _) (by omega))]
              refine lv_if_le (tgt := 283) hx hb dL_isSound_276 (by decide) (fun _ => ?_) (fun c => absurd (by decide) c)
              refine lv_iconst (v := nI 0) hx hb dL_isSound_283 (by decide) ?_
              refine lv_icmp_eq (tgt := 289) hx hb dL_isSound_284 (by decide) (fun _ => ?_) (fun c => absurd rfl c)
              exact k289 ls (lv_sub hl [1, 2, 3, 4, 5, 6] rfl)
      obtain ⟨q, q1, q2, q3⟩ := lH_q h.1 hkl (nI (g 0)) (-1)
      rcases hI_c h (nI k) (nI (g 0)) with hn | ⟨ch, r, c1, c2, c3, c4, c5, c6, c7⟩
      · refine lv_iload hx hb dL_isSound_65 (lv_at hl 0 rfl) ?_
        refine lv_iload_n hx hb dL_isSound_67 rfl (lv_at hl 3 rfl) ?_
        refine lv_icmp_ge (tgt := 353) hx hb dL_isSound_68 (by decide) (fun c => absurd c (nI_ge hkl (by omega))) (fun _ => ?_)
        refine lv_aload_n hx hb dL_isSound_71 rfl (lv_at hl 2 rfl) ?_
        refine lv_iload hx hb dL_isSound_72 (lv_at hl 0 rfl) ?_
        refine lv_iload_n hx hb dL_isSound_74 rfl (lv_at hl 5 rfl) ?_
        refine lv_iconst (v := nI 0) hx hb dL_isSound_75 (by decide) ?_
        refine pr_V (As := [.int (nI k), .int (nI (g 0)), .int (nI 0)]) (rest := []) (v := some (.int (lH f g (nI k) (nI (g 0)) (-1) + 10 * nI 0))) S hG (c_X7_demanded l G hlf A f g H hR (nI k) (nI (g 0)) (nI 0)) (kOr_nn (k_ix (by omega) (by omega)) (kOr_nn (k_day hg0) (by decide))) gL_isSound_X7_demanded rfl ⟨rfl, rfl⟩ np_demanded ⟨Nat.le_of_ble_eq_true rfl, Nat.le_of_ble_eq_true rfl⟩ (rd_rcv hG.1 (rP_0 hR) rfl) rfl hl.1 rfl (Nat.le_of_ble_eq_true rfl) ⟨Nat.le_of_ble_eq_true rfl, Nat.le_of_ble_eq_true rfl⟩ dL_isSound_76 ?_
        refine W.eq (g2 := F0 mZ 79 ls [.int (lH f g (nI k) (nI (g 0)) (-1) + 10 * nI 0)]) rfl ?_
        rw [q3, dm_c]
        refine lv_istore (lv' := [(7, .int (nI (10 * q + 10 * 0))), (6, .int (nI k)), (4, .int (mk4 k (fun j => isUn f g (nI j) (nI (g 0))))), (0, .ref (A 0)), (1, .int (nI (g 3))), (2, .int (nI (g 7))), (3, .int (nI (g 0)))]) hx hb dL_isSound_79 hl (by decide) rfl (fun ls hl => ?_)
        refine lv_aload_n hx hb dL_isSound_81 rfl (lv_at hl 3 rfl) ?_
        refine lv_iload hx hb dL_isSound_82 (lv_at hl 1 rfl) ?_
        refine lv_iload_n hx hb dL_isSound_84 rfl (lv_at hl 6 rfl) ?_
        refine lv_iconst (v := nI 0) hx hb dL_isSound_85 (by decide) ?_
        refine pr_V (As := [.int (nI k), .int (nI (g 0)), .int (nI 0)]) (rest := []) (v := some (.int (fCat (hIF f g (nI k) (nI (g 0))) (nI 0)))) S hG (c_X7_inForce l G hlf A f g H hR (nI k) (nI (g 0)) (nI 0)) (kOr_nn (k_ix (by omega) (by omega)) (kOr_nn (k_day hg0) (by decide))) gL_isSound_X7_inForce rfl ⟨rfl, rfl⟩ np_inForce ⟨Nat.le_of_ble_eq_true rfl, Nat.le_of_ble_eq_true rfl⟩ (rd_rcv hG.1 (rP_0 hR) rfl) rfl hl.1 rfl (Nat.le_of_ble_eq_true rfl) ⟨Nat.le_of_ble_eq_true rfl, Nat.le_of_ble_eq_true rfl⟩ dL_isSound_86 ?_
        refine W.eq (g2 := F0 mZ 89 ls [.int (fCat (hIF f g (nI k) (nI (g 0))) (nI 0))]) rfl ?_
        rw [hn, fc_n]
        refine lv_istore (lv' := [(8, .int (-1)), (7, .int (nI (10 * q + 10 * 0))), (6, .int (nI k)), (4, .int (mk4 k (fun j => isUn f g (nI j) (nI (g 0))))), (0, .ref (A 0)), (1, .int (nI (g 3))), (2, .int (nI (g 7))), (3, .int (nI (g 0)))]) hx hb dL_isSound_89 hl (by decide) rfl (fun ls hl => ?_)
        refine lv_aload_n hx hb dL_isSound_91 rfl (lv_at hl 4 rfl) ?_
        refine lv_iload hx hb dL_isSound_92 (lv_at hl 2 rfl) ?_
        refine lv_iload_n hx hb dL_isSound_94 rfl (lv_at hl 7 rfl) ?_
        refine pr_V (As := [.int (nI k), .int (nI (g 0))]) (rest := []) (v := some (.int (hOn f (nI k) (nI (g 0)) (g 4)))) S hG (c_X7_chart l G hlf A f g H hR (nI k) (nI (g 0))) (kOr_nn (k_ix (by omega) (by omega)) (k_day hg0)) gL_isSound_X7_chart rfl ⟨rfl, rfl⟩ np_chart ⟨Nat.le_of_ble_eq_true rfl, Nat.le_of_ble_eq_true rfl⟩ (rd_rcv hG.1 (rP_0 hR) rfl) rfl hl.1 rfl (Nat.le_of_ble_eq_true rfl) ⟨Nat.le_of_ble_eq_true rfl, Nat.le_of_ble_eq_true rfl⟩ dL_isSound_95 ?_
        refine W.eq (g2 := F0 mZ 98 ls [.int (hOn f (nI k) (nI (g 0)) (g 4))]) rfl ?_
        refine lv_istore (lv' := [(9, .int (hOn f (nI k) (nI (g 0)) (g 4))), (8, .int (-1)), (7, .int (nI (10 * q + 10 * 0))), (6, .int (nI k)), (4, .int (mk4 k (fun j => isUn f g (nI j) (nI (g 0))))), (0, .ref (A 0)), (1, .int (nI (g 3))), (2, .int (nI (g 7))), (3, .int (nI (g 0)))]) hx hb dL_isSound_98 hl (by decide) rfl (fun ls hl => ?_)
        refine lv_iload hx hb dL_isSound_100 (lv_at hl 2 rfl) ?_
        refine lv_sipush (v := nI 200) hx hb dL_isSound_102 (by decide) ?_
        refine lv_icmp_lt (tgt := 185) hx hb dL_isSound_105 (by decide) (fun c => absurd c (nI_nlt (by omega) (by omega))) (fun _ => ?_)
        refine lv_iload hx hb dL_isSound_108 (lv_at hl 2 rfl) ?_
        refine lv_bipush (v := nI 10) hx hb dL_isSound_110 (by decide) ?_
        refine lv_irem hx hb dL_isSound_112 (by decide) ?_
        rw [pk_rem (a := 10 * q + 10 * 0) (d := 10) (by omega) (by decide) (by decide)]
        refine lv_if_ne (tgt := 185) hx hb dL_isSound_113 (by decide) (fun c => absurd (by rw [show (10 * q + 10 * 0) % 10 = 0 by omega]; rfl) c) (fun _ => ?_)
        refine lv_aload_n hx hb dL_isSound_116 rfl (lv_at hl 5 rfl) ?_
        refine lv_iload hx hb dL_isSound_117 (lv_at hl 3 rfl) ?_
        refine lv_iload_n hx hb dL_isSound_119 rfl (lv_at hl 8 rfl) ?_
        refine lv_iconst (v := nI 3) hx hb dL_isSound_120 (by decide) ?_
        refine pr_V (As := [.int (nI k), .int (nI (g 0)), .int (nI 3)]) (rest := []) (v := some (.int (lH f g (nI k) (nI (g 0)) (-1) + 10 * nI 3))) S hG (c_X7_demanded l G hlf A f g H hR (nI k) (nI (g 0)) (nI 3)) (kOr_nn (k_ix (by omega) (by omega)) (kOr_nn (k_day hg0) (by decide))) gL_isSound_X7_demanded rfl ⟨rfl, rfl⟩ np_demanded ⟨Nat.le_of_ble_eq_true rfl, Nat.le_of_ble_eq_true rfl⟩ (rd_rcv hG.1 (rP_0 hR) rfl) rfl hl.1 rfl (Nat.le_of_ble_eq_true rfl) ⟨Nat.le_of_ble_eq_true rfl, Nat.le_of_ble_eq_true rfl⟩ dL_isSound_121 ?_
        refine W.eq (g2 := F0 mZ 124 ls [.int (lH f g (nI k) (nI (g 0)) (-1) + 10 * nI 3)]) rfl ?_
        rw [q3, dm_c]
        refine lv_iload hx hb dL_isSound_124 (lv_at hl 2 rfl) ?_
        refine lv_bipush (v := nI 30) hx hb dL_isSound_126 (by decide) ?_
        refine lv_iadd hx hb dL_isSound_128 ?_
        rw [nI_add (10 * q + 10 * 0) 30]
        refine lv_icmp_ne (tgt := 185) hx hb dL_isSound_129 (by decide) (fun c => absurd (congrArg nI (by omega)) c) (fun _ => ?_)
        refine lv_iload hx hb dL_isSound_132 (lv_at hl 1 rfl) ?_
        refine lv_if_lt (tgt := 160) hx hb dL_isSound_134 (by decide) (fun _ => ?_) (fun c => absurd m1_lt c)
        refine lv_aload_n hx hb dL_isSound_160 rfl (lv_at hl 5 rfl) ?_
        refine lv_iload hx hb dL_isSound_161 (lv_at hl 3 rfl) ?_
        refine lv_iload_n hx hb dL_isSound_163 rfl (lv_at hl 8 rfl) ?_
        refine lv_iconst (v := nI 2) hx hb dL_isSound_164 (by decide) ?_
        refine pr_V (As := [.int (nI k), .int (nI (g 0)), .int (nI 2)]) (rest := []) (v := some (.int (fCat (hIF f g (nI k) (nI (g 0))) (nI 2)))) S hG (c_X7_inForce l G hlf A f g H hR (nI k) (nI (g 0)) (nI 2)) (kOr_nn (k_ix (by omega) (by omega)) (kOr_nn (k_day hg0) (by decide))) gL_isSound_X7_inForce rfl ⟨rfl, rfl⟩ np_inForce ⟨Nat.le_of_ble_eq_true rfl, Nat.le_of_ble_eq_true rfl⟩ (rd_rcv hG.1 (rP_0 hR) rfl) rfl hl.1 rfl (Nat.le_of_ble_eq_true rfl) ⟨Nat.le_of_ble_eq_true rfl, Nat.le_of_ble_eq_true rfl⟩ dL_isSound_165 ?_
        refine W.eq (g2 := F0 mZ 168 ls [.int (fCat (hIF f g (nI k) (nI (g 0))) (nI 2))]) rfl ?_
        rw [hn, fc_n]
        refine lv_iload hx hb dL_isSound_168 (lv_at hl 1 rfl) ?_
        refine lv_if_ge (tgt := 177) hx hb dL_isSound_170 (by decide) (fun c => absurd c (by decide)) (fun _ => ?_)
        refine lv_iconst (v := (-1)) hx hb dL_isSound_173 (by decide) ?_
        refine lv_goto (tgt := 182) hx hb dL_isSound_174 (by decide) ?_
        refine lv_icmp_eq (tgt := 187) hx hb dL_isSound_182 (by decide) (fun _ => ?_) (fun c => absurd rfl c)
        refine lv_iload hx hb dL_isSound_187 (lv_at hl 4 rfl) ?_
        refine lv_iload hx hb dL_isSound_189 (lv_at hl 1 rfl) ?_
        refine lv_if_lt (tgt := 208) hx hb dL_isSound_191 (by decide) (fun _ => ?_) (fun c => absurd m1_lt c)
        refine lv_iconst (v := nI 0) hx hb dL_isSound_208 (by decide) ?_
        refine lv_ior hx hb dL_isSound_209 ?_
        rw [un_f (isUn_n hn)]
        refine lv_istore (lv' := [(4, .int (mk4 (k + 1) (fun j => isUn f g (nI j) (nI (g 0))))), (9, .int (hOn f (nI k) (nI (g 0)) (g 4))), (8, .int (-1)), (7, .int (nI (10 * q + 10 * 0))), (6, .int (nI k)), (0, .ref (A 0)), (1, .int (nI (g 3))), (2, .int (nI (g 7))), (3, .int (nI (g 0)))]) hx hb dL_isSound_210 hl (by decide) rfl (fun ls hl => ?_)
        exact k212 ls (lv_sub hl [4, 0, 5, 6, 7, 8] rfl)
      · refine lv_iload hx hb dL_isSound_65 (lv_at hl 0 rfl) ?_
        refine lv_iload_n hx hb dL_isSound_67 rfl (lv_at hl 3 rfl) ?_
        refine lv_icmp_ge (tgt := 353) hx hb dL_isSound_68 (by decide) (fun c => absurd c (nI_ge hkl (by omega))) (fun _ => ?_)
        refine lv_aload_n hx hb dL_isSound_71 rfl (lv_at hl 2 rfl) ?_
        refine lv_iload hx hb dL_isSound_72 (lv_at hl 0 rfl) ?_
        refine lv_iload_n hx hb dL_isSound_74 rfl (lv_at hl 5 rfl) ?_
        refine lv_iconst (v := nI 0) hx hb dL_isSound_75 (by decide) ?_
        refine pr_V (As := [.int (nI k), .int (nI (g 0)), .int (nI 0)]) (rest := []) (v := some (.int (lH f g (nI k) (nI (g 0)) (-1) + 10 * nI 0))) S hG (c_X7_demanded l G hlf A f g H hR (nI k) (nI (g 0)) (nI 0)) (kOr_nn (k_ix (by omega) (by omega)) (kOr_nn (k_day hg0) (by decide))) gL_isSound_X7_demanded rfl ⟨rfl, rfl⟩ np_demanded ⟨Nat.le_of_ble_eq_true rfl, Nat.le_of_ble_eq_true rfl⟩ (rd_rcv hG.1 (rP_0 hR) rfl) rfl hl.1 rfl (Nat.le_of_ble_eq_true rfl) ⟨Nat.le_of_ble_eq_true rfl, Nat.le_of_ble_eq_true rfl⟩ dL_isSound_76 ?_
        refine W.eq (g2 := F0 mZ 79 ls [.int (lH f g (nI k) (nI (g 0)) (-1) + 10 * nI 0)]) rfl ?_
        rw [q3, dm_c]
        refine lv_istore (lv' := [(7, .int (nI (10 * q + 10 * 0))), (6, .int (nI k)), (4, .int (mk4 k (fun j => isUn f g (nI j) (nI (g 0))))), (0, .ref (A 0)), (1, .int (nI (g 3))), (2, .int (nI (g 7))), (3, .int (nI (g 0)))]) hx hb dL_isSound_79 hl (by decide) rfl (fun ls hl => ?_)
        refine lv_aload_n hx hb dL_isSound_81 rfl (lv_at hl 3 rfl) ?_
        refine lv_iload hx hb dL_isSound_82 (lv_at hl 1 rfl) ?_
        refine lv_iload_n hx hb dL_isSound_84 rfl (lv_at hl 6 rfl) ?_
        refine lv_iconst (v := nI 0) hx hb dL_isSound_85 (by decide) ?_
        refine pr_V (As := [.int (nI k), .int (nI (g 0)), .int (nI 0)]) (rest := []) (v := some (.int (fCat (hIF f g (nI k) (nI (g 0))) (nI 0)))) S hG (c_X7_inForce l G hlf A f g H hR (nI k) (nI (g 0)) (nI 0)) (kOr_nn (k_ix (by omega) (by omega)) (kOr_nn (k_day hg0) (by decide))) gL_isSound_X7_inForce rfl ⟨rfl, rfl⟩ np_inForce ⟨Nat.le_of_ble_eq_true rfl, Nat.le_of_ble_eq_true rfl⟩ (rd_rcv hG.1 (rP_0 hR) rfl) rfl hl.1 rfl (Nat.le_of_ble_eq_true rfl) ⟨Nat.le_of_ble_eq_true rfl, Nat.le_of_ble_eq_true rfl⟩ dL_isSound_86 ?_
        refine W.eq (g2 := F0 mZ 89 ls [.int (fCat (hIF f g (nI k) (nI (g 0))) (nI 0))]) rfl ?_
        rw [c6, fc_p (by omega)]
        refine lv_istore (lv' := [(8, .int (nI (ch + r + 10 * 0))), (7, .int (nI (10 * q + 10 * 0))), (6, .int (nI k)), (4, .int (mk4 k (fun j => isUn f g (nI j) (nI (g 0))))), (0, .ref (A 0)), (1, .int (nI (g 3))), (2, .int (nI (g 7))), (3, .int (nI (g 0)))]) hx hb dL_isSound_89 hl (by decide) rfl (fun ls hl => ?_)
        refine lv_aload_n hx hb dL_isSound_91 rfl (lv_at hl 4 rfl) ?_
        refine lv_iload hx hb dL_isSound_92 (lv_at hl 2 rfl) ?_
        refine lv_iload_n hx hb dL_isSound_94 rfl (lv_at hl 7 rfl) ?_
        refine pr_V (As := [.int (nI k), .int (nI (g 0))]) (rest := []) (v := some (.int (hOn f (nI k) (nI (g 0)) (g 4)))) S hG (c_X7_chart l G hlf A f g H hR (nI k) (nI (g 0))) (kOr_nn (k_ix (by omega) (by omega)) (k_day hg0)) gL_isSound_X7_chart rfl ⟨rfl, rfl⟩ np_chart ⟨Nat.le_of_ble_eq_true rfl, Nat.le_of_ble_eq_true rfl⟩ (rd_rcv hG.1 (rP_0 hR) rfl) rfl hl.1 rfl (Nat.le_of_ble_eq_true rfl) ⟨Nat.le_of_ble_eq_true rfl, Nat.le_of_ble_eq_true rfl⟩ dL_isSound_95 ?_
        refine W.eq (g2 := F0 mZ 98 ls [.int (hOn f (nI k) (nI (g 0)) (g 4))]) rfl ?_
        rw [c4]
        refine lv_istore (lv' := [(9, .int (nI ch)), (8, .int (nI (ch + r + 10 * 0))), (7, .int (nI (10 * q + 10 * 0))), (6, .int (nI k)), (4, .int (mk4 k (fun j => isUn f g (nI j) (nI (g 0))))), (0, .ref (A 0)), (1, .int (nI (g 3))), (2, .int (nI (g 7))), (3, .int (nI (g 0)))]) hx hb dL_isSound_98 hl (by decide) rfl (fun ls hl => ?_)
        refine lv_iload hx hb dL_isSound_100 (lv_at hl 2 rfl) ?_
        refine lv_sipush (v := nI 200) hx hb dL_isSound_102 (by decide) ?_
        refine lv_icmp_lt (tgt := 185) hx hb dL_isSound_105 (by decide) (fun c => absurd c (nI_nlt (by omega) (by omega))) (fun _ => ?_)
        refine lv_iload hx hb dL_isSound_108 (lv_at hl 2 rfl) ?_
        refine lv_bipush (v := nI 10) hx hb dL_isSound_110 (by decide) ?_
        refine lv_irem hx hb dL_isSound_112 (by decide) ?_
        rw [pk_rem (a := 10 * q + 10 * 0) (d := 10) (by omega) (by decide) (by decide)]
        refine lv_if_ne (tgt := 185) hx hb dL_isSound_113 (by decide) (fun c => absurd (by rw [show (10 * q + 10 * 0) % 10 = 0 by omega]; rfl) c) (fun _ => ?_)
        refine lv_aload_n hx hb dL_isSound_116 rfl (lv_at hl 5 rfl) ?_
        refine lv_iload hx hb dL_isSound_117 (lv_at hl 3 rfl) ?_
        refine lv_iload_n hx hb dL_isSound_119 rfl (lv_at hl 8 rfl) ?_
        refine lv_iconst (v := nI 3) hx hb dL_isSound_120 (by decide) ?_
        refine pr_V (As := [.int (nI k), .int (nI (g 0)), .int (nI 3)]) (rest := []) (v := some (.int (lH f g (nI k) (nI (g 0)) (-1) + 10 * nI 3))) S hG (c_X7_demanded l G hlf A f g H hR (nI k) (nI (g 0)) (nI 3)) (kOr_nn (k_ix (by omega) (by omega)) (kOr_nn (k_day hg0) (by decide))) gL_isSound_X7_demanded rfl ⟨rfl, rfl⟩ np_demanded ⟨Nat.le_of_ble_eq_true rfl, Nat.le_of_ble_eq_true rfl⟩ (rd_rcv hG.1 (rP_0 hR) rfl) rfl hl.1 rfl (Nat.le_of_ble_eq_true rfl) ⟨Nat.le_of_ble_eq_true rfl, Nat.le_of_ble_eq_true rfl⟩ dL_isSound_121 ?_
        refine W.eq (g2 := F0 mZ 124 ls [.int (lH f g (nI k) (nI (g 0)) (-1) + 10 * nI 3)]) rfl ?_
        rw [q3, dm_c]
        refine lv_iload hx hb dL_isSound_124 (lv_at hl 2 rfl) ?_
        refine lv_bipush (v := nI 30) hx hb dL_isSound_126 (by decide) ?_
        refine lv_iadd hx hb dL_isSound_128 ?_
        rw [nI_add (10 * q + 10 * 0) 30]
        refine lv_icmp_ne (tgt := 185) hx hb dL_isSound_129 (by decide) (fun c => absurd (congrArg nI (by omega)) c) (fun _ => ?_)
        refine lv_iload hx hb dL_isSound_132 (lv_at hl 1 rfl) ?_
        refine lv_if_lt (tgt := 160) hx hb dL_isSound_134 (by decide) (fun c => absurd c (nI_pos (by omega))) (fun _ => ?_)
        refine lv_iload hx hb dL_isSound_137 (lv_at hl 0 rfl) ?_
        refine lv_if_lt (tgt := 185) hx hb dL_isSound_139 (by decide) (fun c => absurd c (nI_pos (by omega))) (fun _ => ?_)
        refine lv_iload hx hb dL_isSound_142 (lv_at hl 1 rfl) ?_
        refine lv_iload hx hb dL_isSound_144 (lv_at hl 0 rfl) ?_
        refine lv_icmp_lt (tgt := 185) hx hb dL_isSound_146 (by decide) (fun c => absurd c (nI_nlt (by omega) (by omega))) (fun _ => ?_)
        refine lv_iload hx hb dL_isSound_149 (lv_at hl 1 rfl) ?_
        refine lv_iload hx hb dL_isSound_151 (lv_at hl 0 rfl) ?_
        refine lv_sipush (v := nI 500) hx hb dL_isSound_153 (by decide) ?_
        refine lv_iadd hx hb dL_isSound_156 ?_
        rw [nI_add ch 500]
        refine lv_icmp_gt (tgt := 185) hx hb dL_isSound_157 (by decide) (fun c => absurd c (nI_nlt (by omega) (by omega))) (fun _ => ?_)
        refine lv_aload_n hx hb dL_isSound_160 rfl (lv_at hl 5 rfl) ?_
        refine lv_iload hx hb dL_isSound_161 (lv_at hl 3 rfl) ?_
        refine lv_iload_n hx hb dL_isSound_163 rfl (lv_at hl 8 rfl) ?_
        refine lv_iconst (v := nI 2) hx hb dL_isSound_164 (by decide) ?_
        refine pr_V (As := [.int (nI k), .int (nI (g 0)), .int (nI 2)]) (rest := []) (v := some (.int (fCat (hIF f g (nI k) (nI (g 0))) (nI 2)))) S hG (c_X7_inForce l G hlf A f g H hR (nI k) (nI (g 0)) (nI 2)) (kOr_nn (k_ix (by omega) (by omega)) (kOr_nn (k_day hg0) (by decide))) gL_isSound_X7_inForce rfl ⟨rfl, rfl⟩ np_inForce ⟨Nat.le_of_ble_eq_true rfl, Nat.le_of_ble_eq_true rfl⟩ (rd_rcv hG.1 (rP_0 hR) rfl) rfl hl.1 rfl (Nat.le_of_ble_eq_true rfl) ⟨Nat.le_of_ble_eq_true rfl, Nat.le_of_ble_eq_true rfl⟩ dL_isSound_165 ?_
        refine W.eq (g2 := F0 mZ 168 ls [.int (fCat (hIF f g (nI k) (nI (g 0))) (nI 2))]) rfl ?_
        rw [c6, fc_p (by omega)]
        refine lv_iload hx hb dL_isSound_168 (lv_at hl 1 rfl) ?_
        refine lv_if_ge (tgt := 177) hx hb dL_isSound_170 (by decide) (fun _ => ?_) (fun c => absurd (nI_pos' (by omega)) c)
        refine lv_iload hx hb dL_isSound_177 (lv_at hl 1 rfl) ?_
        refine lv_bipush (v := nI 20) hx hb dL_isSound_179 (by decide) ?_
        refine lv_iadd hx hb dL_isSound_181 ?_
        rw [nI_add (ch + r + 10 * 0) 20]
        refine lv_icmp_eq (tgt := 187) hx hb dL_isSound_182 (by decide) (fun _ => ?_) (fun c => absurd (congrArg nI (by omega)) c)
        refine lv_iload hx hb dL_isSound_187 (lv_at hl 4 rfl) ?_
        refine lv_iload hx hb dL_isSound_189 (lv_at hl 1 rfl) ?_
        refine lv_if_lt (tgt := 208) hx hb dL_isSound_191 (by decide) (fun c => absurd c (nI_pos (by omega))) (fun _ => ?_)
        refine lv_iload hx hb dL_isSound_194 (lv_at hl 1 rfl) ?_
        refine lv_iload hx hb dL_isSound_196 (lv_at hl 2 rfl) ?_
        by_cases hu : ch + r < 10 * q
        · refine lv_icmp_ge (tgt := 208) hx hb dL_isSound_198 (by decide) (fun c => absurd c (nI_ge (by omega) (by omega))) (fun _ => ?_)
          refine lv_iconst (v := nI 1) hx hb dL_isSound_201 (by decide) ?_
          refine lv_iload hx hb dL_isSound_202 (lv_at hl 3 rfl) ?_
          refine lv_ishl hx hb dL_isSound_204 ?_
          refine lv_goto (tgt := 209) hx hb dL_isSound_205 (by decide) ?_
          refine lv_ior hx hb dL_isSound_209 ?_
          rw [un_t ((isUn_p c6 q3 (by omega) (by omega)).mpr hu)]
          refine lv_istore (lv' := [(4, .int (mk4 (k + 1) (fun j => isUn f g (nI j) (nI (g 0))))), (9, .int (nI ch)), (8, .int (nI (ch + r + 10 * 0))), (7, .int (nI (10 * q + 10 * 0))), (6, .int (nI k)), (0, .ref (A 0)), (1, .int (nI (g 3))), (2, .int (nI (g 7))), (3, .int (nI (g 0)))]) hx hb dL_isSound_210 hl (by decide) rfl (fun ls hl => ?_)
          exact k212 ls (lv_sub hl [4, 0, 5, 6, 7, 8] rfl)
        · refine lv_icmp_ge (tgt := 208) hx hb dL_isSound_198 (by decide) (fun _ => ?_) (fun c => absurd (nI_le (by omega) (by omega)) c)
          refine lv_iconst (v := nI 0) hx hb dL_isSound_208 (by decide) ?_
          refine lv_ior hx hb dL_isSound_209 ?_
          rw [un_f (fun z => hu ((isUn_p c6 q3 (by omega) (by omega)).mp z))]
          refine lv_istore (lv' := [(4, .int (mk4 (k + 1) (fun j => isUn f g (nI j) (nI (g 0))))), (9, .int (nI ch)), (8, .int (nI (ch + r + 10 * 0))), (7, .int (nI (10 * q + 10 * 0))), (6, .int (nI k)), (0, .ref (A 0)), (1, .int (nI (g 3))), (2, .int (nI (g 7))), (3, .int (nI (g 0)))]) hx hb dL_isSound_210 hl (by decide) rfl (fun ls hl => ?_)
          exact k212 ls (lv_sub hl [4, 0, 5, 6, 7, 8] rfl)
  have loop20 : ∀ (n k : Nat), k + n = 3 → ∀ (ls : Array Slot), lv_has ls 12 [(6, .int (nI k)), (5, .int (mk4 3 (fun j => isGd f (nI j) (nI (g 0))))), (4, .int (nI 0)), (0, .ref (A 0)), (1, .int (nI (g 3))), (2, .int (nI (g 7))), (3, .int (nI (g 0)))] → W pZ l eZ { frames := 10, cells := 1, slots := 6, locals := 200 } sZ mZ ([.ref (A 0), .int (nI (g 3)), .int (nI (g 7))] : List Value).toArray bZ meZ cZ H [] 0 0 (pr_Q bZ H [.ref (A 0), .int (nI (g 3)), .int (nI (g 7))] sZ (some (.int 1))) (F0 mZ 20 ls []) := by
    intro n
    induction n with
    | zero =>
      intro k hk ls hl
      have e9 : k = 3 := by omega
      subst e9
      refine lv_iload hx hb dL_isSound_20 (lv_at hl 0 rfl) ?_
      refine lv_iconst (v := nI 3) hx hb dL_isSound_22 (by decide) ?_
      refine lv_icmp_ge (tgt := 62) hx hb dL_isSound_23 (by decide) (fun _ => ?_) (fun c => absurd (Int32.le_refl _) c)
      refine lv_iconst (v := nI 0) hx hb dL_isSound_62 (by decide) ?_
      refine lv_istore (lv' := [(6, .int (nI 0)), (5, .int (mk4 3 (fun j => isGd f (nI j) (nI (g 0))))), (4, .int (nI 0)), (0, .ref (A 0)), (1, .int (nI (g 3))), (2, .int (nI (g 7))), (3, .int (nI (g 0)))]) hx hb dL_isSound_63 hl (by decide) rfl (fun ls hl => ?_)
      exact loop65 (g 3) 0 (by omega) ls (lv_sub hl [0, 2, 3, 4, 5, 6] rfl)
    | succ n ih =>
      intro k hk ls hl
      have hkl : k < 3 := by omega
      refine lv_iload hx hb dL_isSound_20 (lv_at hl 0 rfl) ?_
      refine lv_iconst (v := nI 3) hx hb dL_isSound_22 (by decide) ?_
      refine lv_icmp_ge (tgt := 62) hx hb dL_isSound_23 (by decide) (fun c => absurd c (nI_ge hkl (by decide))) (fun _ => ?_)
      refine lv_iload hx hb dL_isSound_26 (lv_at hl 1 rfl) ?_
      refine lv_iload hx hb dL_isSound_28 (lv_at hl 0 rfl) ?_
      refine lv_ishr hx hb dL_isSound_30 ?_
      refine lv_iconst (v := nI 1) hx hb dL_isSound_31 (by decide) ?_
      refine lv_iand hx hb dL_isSound_32 ?_
      rw [gd_bit hkl]
      refine lv_aload_n hx hb dL_isSound_33 rfl (lv_at hl 3 rfl) ?_
      refine lv_bipush (v := nI 9) hx hb dL_isSound_34 (by decide) ?_
      refine lv_iload hx hb dL_isSound_36 (lv_at hl 0 rfl) ?_
      refine lv_iadd hx hb dL_isSound_38 ?_
      rw [nI_add 9 k]
      refine pr_V (As := [.int (nI (9 + k))]) (rest := [.int (if isGd f (nI k) (nI (g 0)) = true then nI 1 else nI 0)]) (v := some (.int (mny f g (nI (9 + k))))) S hG (c_X7_many l G hlf A f g H hR (nI (9 + k))) (k_man (by omega)) gL_isSound_X7_many rfl ⟨rfl, rfl⟩ np_many ⟨Nat.le_of_ble_eq_true rfl, Nat.le_of_ble_eq_true rfl⟩ (rd_rcv hG.1 (rP_0 hR) rfl) rfl hl.1 rfl (Nat.le_of_ble_eq_true rfl) ⟨Nat.le_of_ble_eq_true rfl, Nat.le_of_ble_eq_true rfl⟩ dL_isSound_39 ?_
      refine W.eq (g2 := F0 mZ 42 ls [.int (mny f g (nI (9 + k))), .int (if isGd f (nI k) (nI (g 0)) = true then nI 1 else nI 0)]) rfl ?_
      rw [my_9 k hkl]
      refine lv_iload_n hx hb dL_isSound_42 rfl (lv_at hl 6 rfl) ?_
      refine lv_icmp_lt (tgt := 50) hx hb dL_isSound_43 (by decide) (fun c5 => ?_) (fun c5 => ?_)
      · refine lv_iconst (v := nI 0) hx hb dL_isSound_50 (by decide) ?_
        refine lv_icmp_eq (tgt := 56) hx hb dL_isSound_51 (by decide) (fun _ => ?_) (fun c => absurd (if_neg (fun z => (gd_i hkl).mp z c5)) c)
        refine lv_iinc (v := nI (k + 1)) (lv' := [(6, .int (nI (k + 1))), (5, .int (mk4 3 (fun j => isGd f (nI j) (nI (g 0))))), (4, .int (nI 0)), (0, .ref (A 0)), (1, .int (nI (g 3))), (2, .int (nI (g 7))), (3, .int (nI (g 0)))]) hx hb dL_isSound_56 hl (k := 0) rfl (nI_inc _) (by decide) rfl (fun ls hl => ?_)
        refine lv_goto (tgt := 20) hx hb dL_isSound_59 (by decide) ?_
        exact ih (k + 1) (by omega) ls (lv_sub hl [0, 1, 2, 3, 4, 5, 6] rfl)
      · refine lv_iconst (v := nI 1) hx hb dL_isSound_46 (by decide) ?_
        refine lv_goto (tgt := 51) hx hb dL_isSound_47 (by decide) ?_
        refine lv_icmp_eq (tgt := 56) hx hb dL_isSound_51 (by decide) (fun _ => ?_) (fun c => absurd (if_pos ((gd_i hkl).mpr c5)) c)
        refine lv_iinc (v := nI (k + 1)) (lv' := [(6, .int (nI (k + 1))), (5, .int (mk4 3 (fun j => isGd f (nI j) (nI (g 0))))), (4, .int (nI 0)), (0, .ref (A 0)), (1, .int (nI (g 3))), (2, .int (nI (g 7))), (3, .int (nI (g 0)))]) hx hb dL_isSound_56 hl (k := 0) rfl (nI_inc _) (by decide) rfl (fun ls hl => ?_)
        refine lv_goto (tgt := 20) hx hb dL_isSound_59 (by decide) ?_
        exact ih (k + 1) (by omega) ls (lv_sub hl [0, 1, 2, 3, 4, 5, 6] rfl)
  refine lv_aload_n hx hb dL_isSound_0 rfl (lv_at hl 0 rfl) ?_
  refine lv_iconst (v := nI 1) hx hb dL_isSound_1 (by decide) ?_
  refine pr_V (As := [.int (nI 1)]) (rest := []) (v := some (.int (mny f g (nI 1)))) S hG (c_X7_many l G hlf A f g H hR (nI 1)) (k_man (by decide)) gL_isSound_X7_many rfl ⟨rfl, rfl⟩ np_many ⟨Nat.le_of_ble_eq_true rfl, Nat.le_of_ble_eq_true rfl⟩ (rd_rcv hG.1 (rP_0 hR) rfl) rfl hl.1 rfl (Nat.le_of_ble_eq_true rfl) ⟨Nat.le_of_ble_eq_true rfl, Nat.le_of_ble_eq_true rfl⟩ dL_isSound_2 ?_
  refine W.eq (g2 := F0 mZ 5 ls [.int (mny f g (nI 1))]) rfl ?_
  rw [my_1]
  refine lv_istore_n (lv' := [(3, .int (nI (g 0))), (0, .ref (A 0)), (1, .int (nI (g 3))), (2, .int (nI (g 7)))]) hx hb dL_isSound_5 rfl hl (by decide) rfl (fun ls hl => ?_)
  refine lv_iconst (v := nI 0) hx hb dL_isSound_6 (by decide) ?_
  refine lv_istore (lv' := [(4, .int (nI 0)), (3, .int (nI (g 0))), (0, .ref (A 0)), (1, .int (nI (g 3))), (2, .int (nI (g 7)))]) hx hb dL_isSound_7 hl (by decide) rfl (fun ls hl => ?_)
  refine lv_aload_n hx hb dL_isSound_9 rfl (lv_at hl 2 rfl) ?_
  refine lv_bipush (v := nI 6) hx hb dL_isSound_10 (by decide) ?_
  refine pr_V (As := [.int (nI 6)]) (rest := []) (v := some (.int (mny f g (nI 6)))) S hG (c_X7_many l G hlf A f g H hR (nI 6)) (k_man (by decide)) gL_isSound_X7_many rfl ⟨rfl, rfl⟩ np_many ⟨Nat.le_of_ble_eq_true rfl, Nat.le_of_ble_eq_true rfl⟩ (rd_rcv hG.1 (rP_0 hR) rfl) rfl hl.1 rfl (Nat.le_of_ble_eq_true rfl) ⟨Nat.le_of_ble_eq_true rfl, Nat.le_of_ble_eq_true rfl⟩ dL_isSound_12 ?_
  refine W.eq (g2 := F0 mZ 15 ls [.int (mny f g (nI 6))]) rfl ?_
  rw [my_6]
  refine lv_istore (lv' := [(5, .int (mk4 3 (fun j => isGd f (nI j) (nI (g 0))))), (4, .int (nI 0)), (3, .int (nI (g 0))), (0, .ref (A 0)), (1, .int (nI (g 3))), (2, .int (nI (g 7)))]) hx hb dL_isSound_15 hl (by decide) rfl (fun ls hl => ?_)
  refine lv_iconst (v := nI 0) hx hb dL_isSound_17 (by decide) ?_
  refine lv_istore (lv' := [(6, .int (nI 0)), (5, .int (mk4 3 (fun j => isGd f (nI j) (nI (g 0))))), (4, .int (nI 0)), (3, .int (nI (g 0))), (0, .ref (A 0)), (1, .int (nI (g 3))), (2, .int (nI (g 7)))]) hx hb dL_isSound_18 hl (by decide) rfl (fun ls hl => ?_)
  exact loop20 3 0 rfl ls (lv_sub hl [0, 1, 2, 4, 5, 6, 3] rfl)
