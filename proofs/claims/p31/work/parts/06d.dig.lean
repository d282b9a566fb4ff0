set_option maxHeartbeats 1000000 in
set_option maxRecDepth 100000 in
theorem c_X7_digest (l : Launch) (G : GT) (hlf : l.stackTraces = false) (A : Nat → Nat) (f : Nat → Nat → Int32) (g : Nat → Nat) (H : Heap) (hR : RP G A f g H) (hg0 : g 0 ≤ 399) : RxV l G H yX7_digest wsX7_digest { frames := 9, cells := 1, slots := 6, locals := 150 } [.ref (A 0)] (none) (some (.long (dg5 f g))) := by
  refine rx_of (cc := cX7_digest) (maxL := 5) (ret := (some .long)) (by decide) rfl (Nat.le_of_ble_eq_true rfl) ?_
  intro pZ eZ sZ mZ bZ meZ cZ ls S hr hlk hxt hl hHs hG
  have S : CallFix pZ mZ cZ cX7_digest 5 sZ _ wsX7_digest RX7 := S
  have hx := S.1
  have hb := S.2.1
  have hown := S.2.2.2.1
  have hts := S.2.2.2.2
  have hl : lv_has ls 5 [(0, .ref (A 0))] := hl
  have w0 := hts (.constantLong RX7 230 (4815)) (by decide +kernel)
  have w1 := hts (.fieldLink RX7 10 "MinimaRoom" "obstacles" "LMinimaRoom$Obstacles;") (by decide +kernel)
  have w2 := hts (.fieldLink RX7 26 "MinimaRoom" "procedures" "LMinimaRoom$Procedures;") (by decide +kernel)
  have w3 := hts (.fieldLink RX7 40 "MinimaRoom" "notices" "LMinimaRoom$Notices;") (by decide +kernel)
  have w4 := hts (.constantLong RX7 232 (31)) (by decide +kernel)
  have w5 := hts (.fieldLink RX7 51 "MinimaRoom" "now" "I") (by decide +kernel)
  have iX7 : ∀ w ∈ u_ws RX7 TX7 8, w ∈ wsX7_digest := by decide +kernel
  have iX4 : ∀ w ∈ u_ws RX4 TX4 6, w ∈ wsX7_digest := by decide +kernel
  have iX5 : ∀ w ∈ u_ws RX5 TX5 3, w ∈ wsX7_digest := by decide +kernel
  have iX3 : ∀ w ∈ u_ws RX3 TX3 7, w ∈ wsX7_digest := by decide +kernel
  have hgb := hR.1
  have hg1 := hgb 1
  have hg3 := hgb 3
  have hg5 := hgb 5
  refine lv_ldc2 (own := RX7) (v := 4815) hx hb hown w0 dX7_digest_0 ?_
  refine lv_lstore_n (lv' := [(1, .long 4815), (0, .ref (A 0))]) hx hb dX7_digest_3 rfl hl (by decide) rfl (fun ls hl => ?_)
  refine lv_iconst (v := 0) hx hb dX7_digest_4 (by decide) ?_
  refine lv_istore_n (lv' := [(3, .int 0), (1, .long 4815), (0, .ref (A 0))]) hx hb dX7_digest_5 rfl hl (by decide) rfl (fun ls hl => ?_)
  have loop6 : ∀ (n6 k6 : Nat), k6 + n6 = 20 → ∀ (z6_1 : Int64), z6_1 = fl k6 (fun j d => sd d (mny f g (nI j))) 4815 → ∀ (ls : Array Slot), lv_has ls 5 [(3, .int (nI k6)), (1, .long z6_1), (0, .ref (A 0))] → W pZ l eZ ({ frames := 9, cells := 1, slots := 6, locals := 150 } : Room) sZ mZ ([.ref (A 0)] : List Value).toArray bZ meZ cZ H [] 0 0 (rx_Q bZ H [.ref (A 0)] sZ (none) (some (.long (dg5 f g)))) (F0 mZ 6 ls []) := by
    intro n6
    induction n6 with
    | zero =>
      intro k6 hk6 z6_1 ez6_1 ls hl
      obtain rfl : k6 = 20 := by omega
      refine lv_iload_n hx hb dX7_digest_6 rfl (lv_at hl 0 rfl) ?_
      refine lv_bipush (v := 20) hx hb dX7_digest_7 (by decide) ?_
      refine lv_icmp_ge (tgt := 31) hx hb dX7_digest_9 (by decide) (fun c1 => ?_) (fun c1 => ?_)
      · have d1 := Int32.not_lt.mpr c1
        refine lv_iconst (v := 0) hx hb dX7_digest_31 (by decide) ?_
        refine lv_istore_n (lv' := [(3, .int 0), (1, .long z6_1), (0, .ref (A 0))]) hx hb dX7_digest_32 rfl hl (by decide) rfl (fun ls hl => ?_)
        have loop33 : ∀ (n33 k33 : Nat), k33 + n33 = g 1 → ∀ (z33_1 : Int64), z33_1 = fl k33 (fun i d => fl 5 (fun w d => sd d (ofOb f (nI i) (nI w))) d) (dg1 f g) → ∀ (ls : Array Slot), lv_has ls 5 [(3, .int (nI k33)), (1, .long z33_1), (0, .ref (A 0))] → W pZ l eZ ({ frames := 9, cells := 1, slots := 6, locals := 150 } : Room) sZ mZ ([.ref (A 0)] : List Value).toArray bZ meZ cZ H [] 0 0 (rx_Q bZ H [.ref (A 0)] sZ (none) (some (.long (dg5 f g)))) (F0 mZ 33 ls []) := by
          intro n33
          induction n33 with
          | zero =>
            intro k33 hk33 z33_1 ez33_1 ls hl
            obtain rfl : k33 = g 1 := by omega
            refine lv_iload_n hx hb dX7_digest_33 rfl (lv_at hl 0 rfl) ?_
            refine lv_aload_n hx hb dX7_digest_34 rfl (lv_at hl 2 rfl) ?_
            refine rd_get (own := RX7) (x := .ref (A 1)) S hG.1 iX7 (rP_0 hR) 0 rfl (by decide) w1 rfl dX7_digest_35 ?_
            refine rd_getN (own := RX7) (x := .int (nI (g 1))) S hG.1 iX4 (rP_1 hR) 5 rfl (by decide) nest_66 rfl dX7_digest_38 ?_
            refine lv_icmp_ge (tgt := 80) hx hb dX7_digest_41 (by decide) (fun c2 => ?_) (fun c2 => ?_)
            · have d2 := Int32.not_lt.mpr c2
              refine lv_iconst (v := 0) hx hb dX7_digest_80 (by decide) ?_
              refine lv_istore_n (lv' := [(3, .int 0), (1, .long z33_1), (0, .ref (A 0))]) hx hb dX7_digest_81 rfl hl (by decide) rfl (fun ls hl => ?_)
              have loop82 : ∀ (n82 k82 : Nat), k82 + n82 = g 3 → ∀ (z82_1 : Int64), z82_1 = fl k82 (fun p d => dg3P f g (nI p) d) (dg2 f g) → ∀ (ls : Array Slot), lv_has ls 5 [(3, .int (nI k82)), (1, .long z82_1), (0, .ref (A 0))] → W pZ l eZ ({ frames := 9, cells := 1, slots := 6, locals := 150 } : Room) sZ mZ ([.ref (A 0)] : List Value).toArray bZ meZ cZ H [] 0 0 (rx_Q bZ H [.ref (A 0)] sZ (none) (some (.long (dg5 f g)))) (F0 mZ 82 ls []) := by
                intro n82
                induction n82 with
                | zero =>
                  intro k82 hk82 z82_1 ez82_1 ls hl
                  obtain rfl : k82 = g 3 := by omega
                  refine lv_iload_n hx hb dX7_digest_82 rfl (lv_at hl 0 rfl) ?_
                  refine lv_aload_n hx hb dX7_digest_83 rfl (lv_at hl 2 rfl) ?_
                  refine rd_get (own := RX7) (x := .ref (A 3)) S hG.1 iX7 (rP_0 hR) 2 rfl (by decide) w2 rfl dX7_digest_84 ?_
                  refine rd_getN (own := RX7) (x := .int (nI (g 3))) S hG.1 iX5 (rP_3 hR) 2 rfl (by decide) nest_124 rfl dX7_digest_87 ?_
                  refine lv_icmp_ge (tgt := 211) hx hb dX7_digest_90 (by decide) (fun c3 => ?_) (fun c3 => ?_)
                  · have d3 := Int32.not_lt.mpr c3
                    refine lv_iconst (v := 0) hx hb dX7_digest_211 (by decide) ?_
                    refine lv_istore_n (lv' := [(3, .int 0), (1, .long z82_1), (0, .ref (A 0))]) hx hb dX7_digest_212 rfl hl (by decide) rfl (fun ls hl => ?_)
                    have loop213 : ∀ (n213 k213 : Nat), k213 + n213 = g 5 → ∀ (z213_1 : Int64), z213_1 = fl k213 (fun i d => fl 6 (fun w d => sd d (ofNo f g (nI i) (nI w))) d) (dg3 f g) → ∀ (ls : Array Slot), lv_has ls 5 [(3, .int (nI k213)), (1, .long z213_1), (0, .ref (A 0))] → W pZ l eZ ({ frames := 9, cells := 1, slots := 6, locals := 150 } : Room) sZ mZ ([.ref (A 0)] : List Value).toArray bZ meZ cZ H [] 0 0 (rx_Q bZ H [.ref (A 0)] sZ (none) (some (.long (dg5 f g)))) (F0 mZ 213 ls []) := by
                      intro n213
                      induction n213 with
                      | zero =>
                        intro k213 hk213 z213_1 ez213_1 ls hl
                        obtain rfl : k213 = g 5 := by omega
                        refine lv_iload_n hx hb dX7_digest_213 rfl (lv_at hl 0 rfl) ?_
                        refine lv_aload_n hx hb dX7_digest_214 rfl (lv_at hl 2 rfl) ?_
                        refine rd_get (own := RX7) (x := .ref (A 5)) S hG.1 iX7 (rP_0 hR) 4 rfl (by decide) w3 rfl dX7_digest_215 ?_
                        refine rd_getN (own := RX7) (x := .int (nI (g 5))) S hG.1 iX3 (rP_5 hR) 6 rfl (by decide) nest_177 rfl dX7_digest_218 ?_
                        refine lv_icmp_ge (tgt := 261) hx hb dX7_digest_221 (by decide) (fun c4 => ?_) (fun c4 => ?_)
                        · have d4 := Int32.not_lt.mpr c4
                          refine lv_iconst (v := 0) hx hb dX7_digest_261 (by decide) ?_
                          refine lv_istore_n (lv' := [(3, .int 0), (1, .long z213_1), (0, .ref (A 0))]) hx hb dX7_digest_262 rfl hl (by decide) rfl (fun ls hl => ?_)
                          have loop263 : ∀ (n263 k263 : Nat), k263 + n263 = 4 → ∀ (z263_1 : Int64), z263_1 = fl k263 (fun c d => fl (g 3) (fun p d => sd d (fCat (hBl f g (nI c) (nI p) (nI (g 0))) 1)) (sd d (mis f g (nI c)))) (dg4 f g) → ∀ (ls : Array Slot), lv_has ls 5 [(3, .int (nI k263)), (1, .long z263_1), (0, .ref (A 0))] → W pZ l eZ ({ frames := 9, cells := 1, slots := 6, locals := 150 } : Room) sZ mZ ([.ref (A 0)] : List Value).toArray bZ meZ cZ H [] 0 0 (rx_Q bZ H [.ref (A 0)] sZ (none) (some (.long (dg5 f g)))) (F0 mZ 263 ls []) := by
                            intro n263
                            induction n263 with
                            | zero =>
                              intro k263 hk263 z263_1 ez263_1 ls hl
                              obtain rfl : k263 = 4 := by omega
                              refine lv_iload_n hx hb dX7_digest_263 rfl (lv_at hl 0 rfl) ?_
                              refine lv_iconst (v := 4) hx hb dX7_digest_264 (by decide) ?_
                              refine lv_icmp_ge (tgt := 328) hx hb dX7_digest_265 (by decide) (fun c5 => ?_) (fun c5 => ?_)
                              · have d5 := Int32.not_lt.mpr c5
                                refine lv_lload_n hx hb dX7_digest_328 rfl (lv_at hl 1 rfl) ?_
                                exact rx_lret S hr hlk dX7_digest_329 (by subst ez263_1; subst ez213_1; subst ez82_1; subst ez33_1; subst ez6_1; first | rfl | (simp only [dg5, kOr, ne_eq, not_true_eq_false, not_false_eq_true, and_true, true_and, and_false, false_and, or_true, true_or, or_false, false_or, and_self, or_self, decide_eq_true_eq, ↓reduceIte]; done) | (simp only [dg5, c1, d1, c2, d2, c3, d3, c4, d4, c5, d5, kOr, ne_eq, not_true_eq_false, not_false_eq_true, and_true, true_and, and_false, false_and, or_true, true_or, or_false, false_or, and_self, or_self, decide_eq_true_eq, ↓reduceIte]; done) | (simp [dg5, c1, d1, c2, d2, c3, d3, c4, d4, c5, d5, kOr]; done) | (simp only [dg5, c1, d1, c2, d2, c3, d3, c4, d4, c5, d5, kOr, ne_eq, not_true_eq_false, not_false_eq_true, and_true, true_and, and_false, false_and, or_true, true_or, or_false, false_or, and_self, or_self, decide_eq_true_eq, ↓reduceIte])) (congrArg (fun z => some (Value.long z)) (by subst ez263_1; subst ez213_1; subst ez82_1; subst ez33_1; subst ez6_1; first | rfl | (simp only [dg5, c1, d1, c2, d2, c3, d3, c4, d4, c5, d5, ne_eq, not_true_eq_false, not_false_eq_true, and_true, true_and, and_false, false_and, or_true, true_or, or_false, false_or, and_self, or_self, decide_eq_true_eq, ↓reduceIte]; done) | (simp [dg5, c1, d1, c2, d2, c3, d3, c4, d4, c5, d5]; done) | (simp only [dg5, c1, d1, c2, d2, c3, d3, c4, d4, c5, d5, ne_eq, not_true_eq_false, not_false_eq_true, and_true, true_and, and_false, false_and, or_true, true_or, or_false, false_or, and_self, or_self, decide_eq_true_eq, ↓reduceIte])))
                              · have c5 : ¬ (nI 4 ≤ nI 4) := c5; exact absurd c5 (by first | exact fun h => absurd (Int32.le_refl _) h | exact nI_nlt (by omega) (by omega) | exact nI_ge (by omega) (by omega) | exact fun h => h (nI_lt (by omega) (by omega)) | exact fun h => h (nI_le (by omega) (by omega)) | exact fun h => h (lp_le_cnt _) | exact lp_nle (by omega))
                            | succ n263 ih263 =>
                              intro k263 hk263 z263_1 ez263_1 ls hl
                              refine lv_iload_n hx hb dX7_digest_263 rfl (lv_at hl 0 rfl) ?_
                              refine lv_iconst (v := 4) hx hb dX7_digest_264 (by decide) ?_
                              refine lv_icmp_ge (tgt := 328) hx hb dX7_digest_265 (by decide) (fun c6 => ?_) (fun c6 => ?_)
                              · have c6 : nI 4 ≤ nI k263 := c6; exact absurd c6 (by first | exact fun h => absurd (Int32.le_refl _) h | exact nI_nlt (by omega) (by omega) | exact nI_ge (by omega) (by omega) | exact fun h => h (nI_lt (by omega) (by omega)) | exact fun h => h (nI_le (by omega) (by omega)) | exact fun h => h (lp_le_cnt _) | exact lp_nle (by omega))
                              · have d6 := Int32.not_le.mp c6
                                refine lv_lload_n hx hb dX7_digest_268 rfl (lv_at hl 1 rfl) ?_
                                refine lv_ldc2 (own := RX7) (v := 31) hx hb hown w4 dX7_digest_269 ?_
                                refine lv_lmul hx hb dX7_digest_272 ?_
                                refine lv_aload_n hx hb dX7_digest_273 rfl (lv_at hl 2 rfl) ?_
                                refine lv_iload_n hx hb dX7_digest_274 rfl (lv_at hl 0 rfl) ?_
                                refine rx_V (As := [.int (nI k263)]) (rest := [.long (z263_1 * 31)]) (v := some (.int (mis f g (nI k263)))) S hG (c_X7_misled l G hlf A f g H hR (nI k263)) gX7_digest_X7_misled rfl ⟨rfl, rfl⟩ nmX7_misled ⟨Nat.le_of_ble_eq_true rfl, Nat.le_of_ble_eq_true rfl⟩ (rd_rcv hG.1 (rP_0 hR) rfl) rfl hl.1 rfl (Nat.le_of_ble_eq_true rfl) ⟨Nat.le_of_ble_eq_true rfl, Nat.le_of_ble_eq_true rfl⟩ dX7_digest_275 hxt hlk ⟨Nat.le_of_ble_eq_true rfl, Nat.le_of_ble_eq_true rfl⟩ (fun E t hE _ => nomatch (show koIx (nI k263) 4 = none from koIx_nI (by omega) (by omega)).symm.trans hE) (fun k7 => ?_)
                                refine W.eq (g2 := F0 mZ 278 ls [.int (mis f g (nI k263)), .long (z263_1 * 31)]) rfl ?_
                                refine lv_i2l (v := (mis f g (nI k263)).toInt64) hx hb dX7_digest_278 rfl ?_
                                refine lv_ladd hx hb dX7_digest_279 ?_
                                refine lv_topl (fun x8 ex8 => ?_)
                                refine lv_lstore_n (lv' := [(1, .long x8), (3, .int (nI k263)), (0, .ref (A 0))]) hx hb dX7_digest_280 rfl hl (by decide) rfl (fun ls hl => ?_)
                                refine lv_iconst (v := 0) hx hb dX7_digest_281 (by decide) ?_
                                refine lv_istore (lv' := [(4, .int 0), (1, .long x8), (3, .int (nI k263)), (0, .ref (A 0))]) hx hb dX7_digest_282 hl (by decide) rfl (fun ls hl => ?_)
                                have loop284 : ∀ (n284 k284 : Nat), k284 + n284 = g 3 → ∀ (z284_1 : Int64), z284_1 = fl k284 (fun p d => sd d (fCat (hBl f g (nI k263) (nI p) (nI (g 0))) 1)) (sd (fl k263 (fun c d => fl (g 3) (fun p d => sd d (fCat (hBl f g (nI c) (nI p) (nI (g 0))) 1)) (sd d (mis f g (nI c)))) (dg4 f g)) (mis f g (nI k263))) → ∀ (ls : Array Slot), lv_has ls 5 [(4, .int (nI k284)), (1, .long z284_1), (0, .ref (A 0)), (3, .int (nI k263))] → W pZ l eZ ({ frames := 9, cells := 1, slots := 6, locals := 150 } : Room) sZ mZ ([.ref (A 0)] : List Value).toArray bZ meZ cZ H [] 0 0 (rx_Q bZ H [.ref (A 0)] sZ (none) (some (.long (dg5 f g)))) (F0 mZ 284 ls []) := by
                                  intro n284
                                  induction n284 with
                                  | zero =>
                                    intro k284 hk284 z284_1 ez284_1 ls hl
                                    obtain rfl : k284 = g 3 := by omega
                                    refine lv_iload hx hb dX7_digest_284 (lv_at hl 0 rfl) ?_
                                    refine lv_aload_n hx hb dX7_digest_286 rfl (lv_at hl 2 rfl) ?_
                                    refine rd_get (own := RX7) (x := .ref (A 3)) S hG.1 iX7 (rP_0 hR) 2 rfl (by decide) w2 rfl dX7_digest_287 ?_
                                    refine rd_getN (own := RX7) (x := .int (nI (g 3))) S hG.1 iX5 (rP_3 hR) 2 rfl (by decide) nest_124 rfl dX7_digest_290 ?_
                                    refine lv_icmp_ge (tgt := 322) hx hb dX7_digest_293 (by decide) (fun c9 => ?_) (fun c9 => ?_)
                                    · have d9 := Int32.not_lt.mpr c9
                                      refine lv_iinc (v := nI (k263 + 1)) (lv' := [(3, .int (nI (k263 + 1))), (4, .int (nI (g 3))), (1, .long z284_1), (0, .ref (A 0))]) hx hb dX7_digest_322 hl (k := 3) rfl (nI_inc _) (by decide) rfl (fun ls hl => ?_)
                                      refine lv_goto (tgt := 263) hx hb dX7_digest_325 (by decide) ?_
                                      exact ih263 (k263 + 1) (by omega) _ (by subst ez284_1; subst ex8; subst ez263_1; subst ez213_1; subst ez82_1; subst ez33_1; subst ez6_1; rfl) ls (lv_sub hl [0, 2, 3] rfl)
                                    · first | exact absurd c9 c3 | exact absurd c3 c9 | exact absurd (Int32.not_lt.mp c9) (Int32.not_le.mpr c3) | exact absurd (Int32.not_lt.mpr c9) (by simp only [Int32.not_lt]; exact c3)
                                  | succ n284 ih284 =>
                                    intro k284 hk284 z284_1 ez284_1 ls hl
                                    refine lv_iload hx hb dX7_digest_284 (lv_at hl 0 rfl) ?_
                                    refine lv_aload_n hx hb dX7_digest_286 rfl (lv_at hl 2 rfl) ?_
                                    refine rd_get (own := RX7) (x := .ref (A 3)) S hG.1 iX7 (rP_0 hR) 2 rfl (by decide) w2 rfl dX7_digest_287 ?_
                                    refine rd_getN (own := RX7) (x := .int (nI (g 3))) S hG.1 iX5 (rP_3 hR) 2 rfl (by decide) nest_124 rfl dX7_digest_290 ?_
                                    refine lv_icmp_ge (tgt := 322) hx hb dX7_digest_293 (by decide) (fun c10 => ?_) (fun c10 => ?_)
                                    · exact absurd c10 (by first | exact fun h => absurd (Int32.le_refl _) h | exact nI_nlt (by omega) (by omega) | exact nI_ge (by omega) (by omega) | exact fun h => h (nI_lt (by omega) (by omega)) | exact fun h => h (nI_le (by omega) (by omega)) | exact fun h => h (lp_le_cnt _) | exact lp_nle (by omega))
                                    · have d10 := Int32.not_le.mp c10
                                      refine lv_lload_n hx hb dX7_digest_296 rfl (lv_at hl 1 rfl) ?_
                                      refine lv_ldc2 (own := RX7) (v := 31) hx hb hown w4 dX7_digest_297 ?_
                                      refine lv_lmul hx hb dX7_digest_300 ?_
                                      refine lv_aload_n hx hb dX7_digest_301 rfl (lv_at hl 2 rfl) ?_
                                      refine lv_iload_n hx hb dX7_digest_302 rfl (lv_at hl 3 rfl) ?_
                                      refine lv_iload hx hb dX7_digest_303 (lv_at hl 0 rfl) ?_
                                      refine lv_aload_n hx hb dX7_digest_305 rfl (lv_at hl 2 rfl) ?_
                                      refine rd_get (own := RX7) (x := .int (nI (g 0))) S hG.1 iX7 (rP_0 hR) 6 rfl (by decide) w5 rfl dX7_digest_306 ?_
                                      refine lv_iconst (v := 1) hx hb dX7_digest_309 (by decide) ?_
                                      refine rx_V (As := [.int (nI k263), .int (nI k284), .int (nI (g 0)), .int 1]) (rest := [.long (z284_1 * 31)]) (v := some (.int (fCat (hBl f g (nI k263) (nI k284) (nI (g 0))) 1))) S hG (c_X7_believes l G hlf A f g H hR (nI k263) (nI k284) (nI (g 0)) 1) gX7_digest_X7_believes rfl ⟨rfl, rfl⟩ nmX7_believes ⟨Nat.le_of_ble_eq_true rfl, Nat.le_of_ble_eq_true rfl⟩ (rd_rcv hG.1 (rP_0 hR) rfl) rfl hl.1 rfl (Nat.le_of_ble_eq_true rfl) ⟨Nat.le_of_ble_eq_true rfl, Nat.le_of_ble_eq_true rfl⟩ dX7_digest_310 hxt hlk ⟨Nat.le_of_ble_eq_true rfl, Nat.le_of_ble_eq_true rfl⟩ (fun E t hE _ => nomatch (show kOr (koIx (nI k263) 4) (kOr (koIx (nI k284) (g 3)) (kOr (koArg (nI (g 0)) (nI (g 0)) 399) (koArg 1 0 3))) = none from kOr2 (koIx_nI (by omega) (by omega)) (kOr2 (koIx_nI (by omega) (by omega)) (kOr2 (koArg_nI (k := (g 0)) (lo := (g 0)) (hi := 399) (by omega) (by omega) (by omega)) (koArg_nI (k := 1) (lo := 0) (hi := 3) (by omega) (by omega) (by omega))))).symm.trans hE) (fun k11 => ?_)
                                      refine W.eq (g2 := F0 mZ 313 ls [.int (fCat (hBl f g (nI k263) (nI k284) (nI (g 0))) 1), .long (z284_1 * 31)]) rfl ?_
                                      refine lv_i2l (v := (fCat (hBl f g (nI k263) (nI k284) (nI (g 0))) 1).toInt64) hx hb dX7_digest_313 rfl ?_
                                      refine lv_ladd hx hb dX7_digest_314 ?_
                                      refine lv_topl (fun x12 ex12 => ?_)
                                      refine lv_lstore_n (lv' := [(1, .long x12), (4, .int (nI k284)), (0, .ref (A 0)), (3, .int (nI k263))]) hx hb dX7_digest_315 rfl hl (by decide) rfl (fun ls hl => ?_)
                                      refine lv_iinc (v := nI (k284 + 1)) (lv' := [(4, .int (nI (k284 + 1))), (1, .long x12), (0, .ref (A 0)), (3, .int (nI k263))]) hx hb dX7_digest_316 hl (k := 1) rfl (nI_inc _) (by decide) rfl (fun ls hl => ?_)
                                      refine lv_goto (tgt := 284) hx hb dX7_digest_319 (by decide) ?_
                                      exact ih284 (k284 + 1) (by omega) _ (by subst ex12; subst ez284_1; subst ex8; subst ez263_1; subst ez213_1; subst ez82_1; subst ez33_1; subst ez6_1; rfl) ls (lv_sub hl [0, 1, 2, 3] rfl)
                                exact loop284 (g 3) 0 (by omega) _ (by subst ex8; subst ez263_1; subst ez213_1; subst ez82_1; subst ez33_1; subst ez6_1; first | rfl | first | rfl | (simp only [fl, dg5, c1, d1, c2, d2, c3, d3, c4, d4, c6, d6, k7, ne_eq, not_true_eq_false, not_false_eq_true, and_true, true_and, and_false, false_and, or_true, true_or, or_false, false_or, and_self, or_self, decide_eq_true_eq, ↓reduceIte]; done) | (simp [fl, dg5, c1, d1, c2, d2, c3, d3, c4, d4, c6, d6, k7]; done) | (simp only [fl, dg5, c1, d1, c2, d2, c3, d3, c4, d4, c6, d6, k7, ne_eq, not_true_eq_false, not_false_eq_true, and_true, true_and, and_false, false_and, or_true, true_or, or_false, false_or, and_self, or_self, decide_eq_true_eq, ↓reduceIte])) ls (lv_sub hl [0, 1, 3, 2] rfl)
                          exact loop263 4 0 (by omega) _ (by subst ez213_1; subst ez82_1; subst ez33_1; subst ez6_1; first | rfl | first | rfl | (simp only [fl, dg5, c1, d1, c2, d2, c3, d3, c4, d4, ne_eq, not_true_eq_false, not_false_eq_true, and_true, true_and, and_false, false_and, or_true, true_or, or_false, false_or, and_self, or_self, decide_eq_true_eq, ↓reduceIte]; done) | (simp [fl, dg5, c1, d1, c2, d2, c3, d3, c4, d4]; done) | (simp only [fl, dg5, c1, d1, c2, d2, c3, d3, c4, d4, ne_eq, not_true_eq_false, not_false_eq_true, and_true, true_and, and_false, false_and, or_true, true_or, or_false, false_or, and_self, or_self, decide_eq_true_eq, ↓reduceIte])) ls (lv_sub hl [0, 1, 2] rfl)
                        · exact absurd c4 (by first | exact fun h => absurd (Int32.le_refl _) h | exact nI_nlt (by omega) (by omega) | exact nI_ge (by omega) (by omega) | exact fun h => h (nI_lt (by omega) (by omega)) | exact fun h => h (nI_le (by omega) (by omega)) | exact fun h => h (lp_le_cnt _) | exact lp_nle (by omega))
                      | succ n213 ih213 =>
                        intro k213 hk213 z213_1 ez213_1 ls hl
                        refine lv_iload_n hx hb dX7_digest_213 rfl (lv_at hl 0 rfl) ?_
                        refine lv_aload_n hx hb dX7_digest_214 rfl (lv_at hl 2 rfl) ?_
                        refine rd_get (own := RX7) (x := .ref (A 5)) S hG.1 iX7 (rP_0 hR) 4 rfl (by decide) w3 rfl dX7_digest_215 ?_
                        refine rd_getN (own := RX7) (x := .int (nI (g 5))) S hG.1 iX3 (rP_5 hR) 6 rfl (by decide) nest_177 rfl dX7_digest_218 ?_
                        refine lv_icmp_ge (tgt := 261) hx hb dX7_digest_221 (by decide) (fun c13 => ?_) (fun c13 => ?_)
                        · exact absurd c13 (by first | exact fun h => absurd (Int32.le_refl _) h | exact nI_nlt (by omega) (by omega) | exact nI_ge (by omega) (by omega) | exact fun h => h (nI_lt (by omega) (by omega)) | exact fun h => h (nI_le (by omega) (by omega)) | exact fun h => h (lp_le_cnt _) | exact lp_nle (by omega))
                        · have d13 := Int32.not_le.mp c13
                          refine lv_iconst (v := 0) hx hb dX7_digest_224 (by decide) ?_
                          refine lv_istore (lv' := [(4, .int 0), (3, .int (nI k213)), (1, .long z213_1), (0, .ref (A 0))]) hx hb dX7_digest_225 hl (by decide) rfl (fun ls hl => ?_)
                          have loop227 : ∀ (n227 k227 : Nat), k227 + n227 = 6 → ∀ (z227_1 : Int64), z227_1 = fl k227 (fun w d => sd d (ofNo f g (nI k213) (nI w))) (fl k213 (fun i d => fl 6 (fun w d => sd d (ofNo f g (nI i) (nI w))) d) (dg3 f g)) → ∀ (ls : Array Slot), lv_has ls 5 [(4, .int (nI k227)), (1, .long z227_1), (0, .ref (A 0)), (3, .int (nI k213))] → W pZ l eZ ({ frames := 9, cells := 1, slots := 6, locals := 150 } : Room) sZ mZ ([.ref (A 0)] : List Value).toArray bZ meZ cZ H [] 0 0 (rx_Q bZ H [.ref (A 0)] sZ (none) (some (.long (dg5 f g)))) (F0 mZ 227 ls []) := by
                            intro n227
                            induction n227 with
                            | zero =>
                              intro k227 hk227 z227_1 ez227_1 ls hl
                              obtain rfl : k227 = 6 := by omega
                              refine lv_iload hx hb dX7_digest_227 (lv_at hl 0 rfl) ?_
                              refine lv_bipush (v := 6) hx hb dX7_digest_229 (by decide) ?_
                              refine lv_icmp_ge (tgt := 255) hx hb dX7_digest_231 (by decide) (fun c14 => ?_) (fun c14 => ?_)
                              · have d14 := Int32.not_lt.mpr c14
                                refine lv_iinc (v := nI (k213 + 1)) (lv' := [(3, .int (nI (k213 + 1))), (4, .int (nI 6)), (1, .long z227_1), (0, .ref (A 0))]) hx hb dX7_digest_255 hl (k := 3) rfl (nI_inc _) (by decide) rfl (fun ls hl => ?_)
                                refine lv_goto (tgt := 213) hx hb dX7_digest_258 (by decide) ?_
                                exact ih213 (k213 + 1) (by omega) _ (by subst ez227_1; subst ez213_1; subst ez82_1; subst ez33_1; subst ez6_1; rfl) ls (lv_sub hl [0, 2, 3] rfl)
                              · have c14 : ¬ (nI 6 ≤ nI 6) := c14; exact absurd c14 (by first | exact fun h => absurd (Int32.le_refl _) h | exact nI_nlt (by omega) (by omega) | exact nI_ge (by omega) (by omega) | exact fun h => h (nI_lt (by omega) (by omega)) | exact fun h => h (nI_le (by omega) (by omega)) | exact fun h => h (lp_le_cnt _) | exact lp_nle (by omega))
                            | succ n227 ih227 =>
                              intro k227 hk227 z227_1 ez227_1 ls hl
                              refine lv_iload hx hb dX7_digest_227 (lv_at hl 0 rfl) ?_
                              refine lv_bipush (v := 6) hx hb dX7_digest_229 (by decide) ?_
                              refine lv_icmp_ge (tgt := 255) hx hb dX7_digest_231 (by decide) (fun c15 => ?_) (fun c15 => ?_)
                              · have c15 : nI 6 ≤ nI k227 := c15; exact absurd c15 (by first | exact fun h => absurd (Int32.le_refl _) h | exact nI_nlt (by omega) (by omega) | exact nI_ge (by omega) (by omega) | exact fun h => h (nI_lt (by omega) (by omega)) | exact fun h => h (nI_le (by omega) (by omega)) | exact fun h => h (lp_le_cnt _) | exact lp_nle (by omega))
                              · have d15 := Int32.not_le.mp c15
                                refine lv_lload_n hx hb dX7_digest_234 rfl (lv_at hl 1 rfl) ?_
                                refine lv_ldc2 (own := RX7) (v := 31) hx hb hown w4 dX7_digest_235 ?_
                                refine lv_lmul hx hb dX7_digest_238 ?_
                                refine lv_aload_n hx hb dX7_digest_239 rfl (lv_at hl 2 rfl) ?_
                                refine lv_iload_n hx hb dX7_digest_240 rfl (lv_at hl 3 rfl) ?_
                                refine lv_iload hx hb dX7_digest_241 (lv_at hl 0 rfl) ?_
                                refine rx_V (As := [.int (nI k213), .int (nI k227)]) (rest := [.long (z227_1 * 31)]) (v := some (.int (ofNo f g (nI k213) (nI k227)))) S hG (c_X7_ofNotice l G hlf A f g H hR (nI k213) (nI k227)) gX7_digest_X7_ofNotice rfl ⟨rfl, rfl⟩ nmX7_ofNotice ⟨Nat.le_of_ble_eq_true rfl, Nat.le_of_ble_eq_true rfl⟩ (rd_rcv hG.1 (rP_0 hR) rfl) rfl hl.1 rfl (Nat.le_of_ble_eq_true rfl) ⟨Nat.le_of_ble_eq_true rfl, Nat.le_of_ble_eq_true rfl⟩ dX7_digest_243 hxt hlk ⟨Nat.le_of_ble_eq_true rfl, Nat.le_of_ble_eq_true rfl⟩ (fun E t hE _ => nomatch (show kOr (koIx (nI k213) (g 5)) (koArg (nI k227) 0 5) = none from kOr2 (koIx_nI (by omega) (by omega)) (koArg_nI (k := k227) (lo := 0) (hi := 5) (by omega) (by omega) (by omega))).symm.trans hE) (fun k16 => ?_)
                                refine W.eq (g2 := F0 mZ 246 ls [.int (ofNo f g (nI k213) (nI k227)), .long (z227_1 * 31)]) rfl ?_
                                refine lv_i2l (v := (ofNo f g (nI k213) (nI k227)).toInt64) hx hb dX7_digest_246 rfl ?_
                                refine lv_ladd hx hb dX7_digest_247 ?_
                                refine lv_topl (fun x17 ex17 => ?_)
                                refine lv_lstore_n (lv' := [(1, .long x17), (4, .int (nI k227)), (0, .ref (A 0)), (3, .int (nI k213))]) hx hb dX7_digest_248 rfl hl (by decide) rfl (fun ls hl => ?_)
                                refine lv_iinc (v := nI (k227 + 1)) (lv' := [(4, .int (nI (k227 + 1))), (1, .long x17), (0, .ref (A 0)), (3, .int (nI k213))]) hx hb dX7_digest_249 hl (k := 1) rfl (nI_inc _) (by decide) rfl (fun ls hl => ?_)
                                refine lv_goto (tgt := 227) hx hb dX7_digest_252 (by decide) ?_
                                exact ih227 (k227 + 1) (by omega) _ (by subst ex17; subst ez227_1; subst ez213_1; subst ez82_1; subst ez33_1; subst ez6_1; rfl) ls (lv_sub hl [0, 1, 2, 3] rfl)
                          exact loop227 6 0 (by omega) _ (by subst ez213_1; subst ez82_1; subst ez33_1; subst ez6_1; first | rfl | first | rfl | (simp only [fl, dg5, c1, d1, c2, d2, c3, d3, c13, d13, ne_eq, not_true_eq_false, not_false_eq_true, and_true, true_and, and_false, false_and, or_true, true_or, or_false, false_or, and_self, or_self, decide_eq_true_eq, ↓reduceIte]; done) | (simp [fl, dg5, c1, d1, c2, d2, c3, d3, c13, d13]; done) | (simp only [fl, dg5, c1, d1, c2, d2, c3, d3, c13, d13, ne_eq, not_true_eq_false, not_false_eq_true, and_true, true_and, and_false, false_and, or_true, true_or, or_false, false_or, and_self, or_self, decide_eq_true_eq, ↓reduceIte])) ls (lv_sub hl [0, 2, 3, 1] rfl)
                    exact loop213 (g 5) 0 (by omega) _ (by subst ez82_1; subst ez33_1; subst ez6_1; first | rfl | first | rfl | (simp only [fl, dg5, c1, d1, c2, d2, c3, d3, ne_eq, not_true_eq_false, not_false_eq_true, and_true, true_and, and_false, false_and, or_true, true_or, or_false, false_or, and_self, or_self, decide_eq_true_eq, ↓reduceIte]; done) | (simp [fl, dg5, c1, d1, c2, d2, c3, d3]; done) | (simp only [fl, dg5, c1, d1, c2, d2, c3, d3, ne_eq, not_true_eq_false, not_false_eq_true, and_true, true_and, and_false, false_and, or_true, true_or, or_false, false_or, and_self, or_self, decide_eq_true_eq, ↓reduceIte])) ls (lv_sub hl [0, 1, 2] rfl)
                  · exact absurd c3 (by first | exact fun h => absurd (Int32.le_refl _) h | exact nI_nlt (by omega) (by omega) | exact nI_ge (by omega) (by omega) | exact fun h => h (nI_lt (by omega) (by omega)) | exact fun h => h (nI_le (by omega) (by omega)) | exact fun h => h (lp_le_cnt _) | exact lp_nle (by omega))
                | succ n82 ih82 =>
                  intro k82 hk82 z82_1 ez82_1 ls hl
                  refine lv_iload_n hx hb dX7_digest_82 rfl (lv_at hl 0 rfl) ?_
                  refine lv_aload_n hx hb dX7_digest_83 rfl (lv_at hl 2 rfl) ?_
                  refine rd_get (own := RX7) (x := .ref (A 3)) S hG.1 iX7 (rP_0 hR) 2 rfl (by decide) w2 rfl dX7_digest_84 ?_
                  refine rd_getN (own := RX7) (x := .int (nI (g 3))) S hG.1 iX5 (rP_3 hR) 2 rfl (by decide) nest_124 rfl dX7_digest_87 ?_
                  refine lv_icmp_ge (tgt := 211) hx hb dX7_digest_90 (by decide) (fun c18 => ?_) (fun c18 => ?_)
                  · exact absurd c18 (by first | exact fun h => absurd (Int32.le_refl _) h | exact nI_nlt (by omega) (by omega) | exact nI_ge (by omega) (by omega) | exact fun h => h (nI_lt (by omega) (by omega)) | exact fun h => h (nI_le (by omega) (by omega)) | exact fun h => h (lp_le_cnt _) | exact lp_nle (by omega))
                  · have d18 := Int32.not_le.mp c18
                    refine lv_lload_n hx hb dX7_digest_93 rfl (lv_at hl 1 rfl) ?_
                    refine lv_ldc2 (own := RX7) (v := 31) hx hb hown w4 dX7_digest_94 ?_
                    refine lv_lmul hx hb dX7_digest_97 ?_
                    refine lv_aload_n hx hb dX7_digest_98 rfl (lv_at hl 2 rfl) ?_
                    refine lv_iload_n hx hb dX7_digest_99 rfl (lv_at hl 0 rfl) ?_
                    refine lv_aload_n hx hb dX7_digest_100 rfl (lv_at hl 2 rfl) ?_
                    refine rd_get (own := RX7) (x := .int (nI (g 0))) S hG.1 iX7 (rP_0 hR) 6 rfl (by decide) w5 rfl dX7_digest_101 ?_
                    refine lv_iconst (v := 0) hx hb dX7_digest_104 (by decide) ?_
                    refine rx_V (As := [.int (nI k82), .int (nI (g 0)), .int 0]) (rest := [.long (z82_1 * 31)]) (v := some (.int (lH f g (nI k82) (nI (g 0)) (-1) + 10 * 0))) S hG (c_X7_demanded l G hlf A f g H hR (nI k82) (nI (g 0)) 0) gX7_digest_X7_demanded rfl ⟨rfl, rfl⟩ nmX7_demanded ⟨Nat.le_of_ble_eq_true rfl, Nat.le_of_ble_eq_true rfl⟩ (rd_rcv hG.1 (rP_0 hR) rfl) rfl hl.1 rfl (Nat.le_of_ble_eq_true rfl) ⟨Nat.le_of_ble_eq_true rfl, Nat.le_of_ble_eq_true rfl⟩ dX7_digest_105 hxt hlk ⟨Nat.le_of_ble_eq_true rfl, Nat.le_of_ble_eq_true rfl⟩ (fun E t hE _ => nomatch (show kOr (koIx (nI k82) (g 3)) (kOr (koArg (nI (g 0)) 0 399) (koArg 0 0 3)) = none from kOr2 (koIx_nI (by omega) (by omega)) (kOr2 (koArg_nI (k := (g 0)) (lo := 0) (hi := 399) (by omega) (by omega) (by omega)) (koArg_nI (k := 0) (lo := 0) (hi := 3) (by omega) (by omega) (by omega)))).symm.trans hE) (fun k19 => ?_)
                    refine W.eq (g2 := F0 mZ 108 ls [.int (lH f g (nI k82) (nI (g 0)) (-1) + 10 * 0), .long (z82_1 * 31)]) rfl ?_
                    refine lv_i2l (v := (lH f g (nI k82) (nI (g 0)) (-1) + 10 * 0).toInt64) hx hb dX7_digest_108 rfl ?_
                    refine lv_ladd hx hb dX7_digest_109 ?_
                    refine lv_topl (fun x20 ex20 => ?_)
                    refine lv_lstore_n (lv' := [(1, .long x20), (3, .int (nI k82)), (0, .ref (A 0))]) hx hb dX7_digest_110 rfl hl (by decide) rfl (fun ls hl => ?_)
                    refine lv_lload_n hx hb dX7_digest_111 rfl (lv_at hl 0 rfl) ?_
                    refine lv_ldc2 (own := RX7) (v := 31) hx hb hown w4 dX7_digest_112 ?_
                    refine lv_lmul hx hb dX7_digest_115 ?_
                    refine lv_aload_n hx hb dX7_digest_116 rfl (lv_at hl 2 rfl) ?_
                    refine lv_iload_n hx hb dX7_digest_117 rfl (lv_at hl 1 rfl) ?_
                    refine lv_aload_n hx hb dX7_digest_118 rfl (lv_at hl 2 rfl) ?_
                    refine rd_get (own := RX7) (x := .int (nI (g 0))) S hG.1 iX7 (rP_0 hR) 6 rfl (by decide) w5 rfl dX7_digest_119 ?_
                    refine lv_iconst (v := 0) hx hb dX7_digest_122 (by decide) ?_
                    refine rx_V (As := [.int (nI k82), .int (nI (g 0)), .int 0]) (rest := [.long (x20 * 31)]) (v := some (.int (fCat (hIF f g (nI k82) (nI (g 0))) 0))) S hG (c_X7_inForce l G hlf A f g H hR (nI k82) (nI (g 0)) 0) gX7_digest_X7_inForce rfl ⟨rfl, rfl⟩ nmX7_inForce ⟨Nat.le_of_ble_eq_true rfl, Nat.le_of_ble_eq_true rfl⟩ (rd_rcv hG.1 (rP_0 hR) rfl) rfl hl.1 rfl (Nat.le_of_ble_eq_true rfl) ⟨Nat.le_of_ble_eq_true rfl, Nat.le_of_ble_eq_true rfl⟩ dX7_digest_123 hxt hlk ⟨Nat.le_of_ble_eq_true rfl, Nat.le_of_ble_eq_true rfl⟩ (fun E t hE _ => nomatch (show kOr (koIx (nI k82) (g 3)) (kOr (koArg (nI (g 0)) 0 399) (koArg 0 0 3)) = none from kOr2 (koIx_nI (by omega) (by omega)) (kOr2 (koArg_nI (k := (g 0)) (lo := 0) (hi := 399) (by omega) (by omega) (by omega)) (koArg_nI (k := 0) (lo := 0) (hi := 3) (by omega) (by omega) (by omega)))).symm.trans hE) (fun k21 => ?_)
                    refine W.eq (g2 := F0 mZ 126 ls [.int (fCat (hIF f g (nI k82) (nI (g 0))) 0), .long (x20 * 31)]) rfl ?_
                    refine lv_i2l (v := (fCat (hIF f g (nI k82) (nI (g 0))) 0).toInt64) hx hb dX7_digest_126 rfl ?_
                    refine lv_ladd hx hb dX7_digest_127 ?_
                    refine lv_topl (fun x22 ex22 => ?_)
                    refine lv_lstore_n (lv' := [(1, .long x22), (3, .int (nI k82)), (0, .ref (A 0))]) hx hb dX7_digest_128 rfl hl (by decide) rfl (fun ls hl => ?_)
                    refine lv_lload_n hx hb dX7_digest_129 rfl (lv_at hl 0 rfl) ?_
                    refine lv_ldc2 (own := RX7) (v := 31) hx hb hown w4 dX7_digest_130 ?_
                    refine lv_lmul hx hb dX7_digest_133 ?_
                    refine lv_aload_n hx hb dX7_digest_134 rfl (lv_at hl 2 rfl) ?_
                    refine lv_iload_n hx hb dX7_digest_135 rfl (lv_at hl 1 rfl) ?_
                    refine lv_aload_n hx hb dX7_digest_136 rfl (lv_at hl 2 rfl) ?_
                    refine rd_get (own := RX7) (x := .int (nI (g 0))) S hG.1 iX7 (rP_0 hR) 6 rfl (by decide) w5 rfl dX7_digest_137 ?_
                    refine rx_V (As := [.int (nI k82), .int (nI (g 0))]) (rest := [.long (x22 * 31)]) (v := some (.int (hOn f (nI k82) (nI (g 0)) (g 4)))) S hG (c_X7_chart l G hlf A f g H hR (nI k82) (nI (g 0))) gX7_digest_X7_chart rfl ⟨rfl, rfl⟩ nmX7_chart ⟨Nat.le_of_ble_eq_true rfl, Nat.le_of_ble_eq_true rfl⟩ (rd_rcv hG.1 (rP_0 hR) rfl) rfl hl.1 rfl (Nat.le_of_ble_eq_true rfl) ⟨Nat.le_of_ble_eq_true rfl, Nat.le_of_ble_eq_true rfl⟩ dX7_digest_140 hxt hlk ⟨Nat.le_of_ble_eq_true rfl, Nat.le_of_ble_eq_true rfl⟩ (fun E t hE _ => nomatch (show kOr (koIx (nI k82) (g 3)) (koArg (nI (g 0)) 0 399) = none from kOr2 (koIx_nI (by omega) (by omega)) (koArg_nI (k := (g 0)) (lo := 0) (hi := 399) (by omega) (by omega) (by omega))).symm.trans hE) (fun k23 => ?_)
                    refine W.eq (g2 := F0 mZ 143 ls [.int (hOn f (nI k82) (nI (g 0)) (g 4)), .long (x22 * 31)]) rfl ?_
                    refine lv_i2l (v := (hOn f (nI k82) (nI (g 0)) (g 4)).toInt64) hx hb dX7_digest_143 rfl ?_
                    refine lv_ladd hx hb dX7_digest_144 ?_
                    refine lv_topl (fun x24 ex24 => ?_)
                    refine lv_lstore_n (lv' := [(1, .long x24), (3, .int (nI k82)), (0, .ref (A 0))]) hx hb dX7_digest_145 rfl hl (by decide) rfl (fun ls hl => ?_)
                    refine lv_lload_n hx hb dX7_digest_146 rfl (lv_at hl 0 rfl) ?_
                    refine lv_ldc2 (own := RX7) (v := 31) hx hb hown w4 dX7_digest_147 ?_
                    refine lv_lmul hx hb dX7_digest_150 ?_
                    refine lv_aload_n hx hb dX7_digest_151 rfl (lv_at hl 2 rfl) ?_
                    refine lv_iload_n hx hb dX7_digest_152 rfl (lv_at hl 1 rfl) ?_
                    refine lv_sipush (v := 399) hx hb dX7_digest_153 (by decide) ?_
                    refine rx_V (As := [.int (nI k82), .int 399]) (rest := [.long (x24 * 31)]) (v := some (.int (hOn f (nI k82) 399 (g 4)))) S hG (c_X7_chart l G hlf A f g H hR (nI k82) 399) gX7_digest_X7_chart rfl ⟨rfl, rfl⟩ nmX7_chart ⟨Nat.le_of_ble_eq_true rfl, Nat.le_of_ble_eq_true rfl⟩ (rd_rcv hG.1 (rP_0 hR) rfl) rfl hl.1 rfl (Nat.le_of_ble_eq_true rfl) ⟨Nat.le_of_ble_eq_true rfl, Nat.le_of_ble_eq_true rfl⟩ dX7_digest_156 hxt hlk ⟨Nat.le_of_ble_eq_true rfl, Nat.le_of_ble_eq_true rfl⟩ (fun E t hE _ => nomatch (show kOr (koIx (nI k82) (g 3)) (koArg 399 0 399) = none from kOr2 (koIx_nI (by omega) (by omega)) (koArg_nI (k := 399) (lo := 0) (hi := 399) (by omega) (by omega) (by omega))).symm.trans hE) (fun k25 => ?_)
                    refine W.eq (g2 := F0 mZ 159 ls [.int (hOn f (nI k82) 399 (g 4)), .long (x24 * 31)]) rfl ?_
                    refine lv_i2l (v := (hOn f (nI k82) 399 (g 4)).toInt64) hx hb dX7_digest_159 rfl ?_
                    refine lv_ladd hx hb dX7_digest_160 ?_
                    refine lv_topl (fun x26 ex26 => ?_)
                    refine lv_lstore_n (lv' := [(1, .long x26), (3, .int (nI k82)), (0, .ref (A 0))]) hx hb dX7_digest_161 rfl hl (by decide) rfl (fun ls hl => ?_)
                    refine lv_lload_n hx hb dX7_digest_162 rfl (lv_at hl 0 rfl) ?_
                    refine lv_ldc2 (own := RX7) (v := 31) hx hb hown w4 dX7_digest_163 ?_
                    refine lv_lmul hx hb dX7_digest_166 ?_
                    refine lv_aload_n hx hb dX7_digest_167 rfl (lv_at hl 2 rfl) ?_
                    refine lv_iload_n hx hb dX7_digest_168 rfl (lv_at hl 1 rfl) ?_
                    refine lv_aload_n hx hb dX7_digest_169 rfl (lv_at hl 2 rfl) ?_
                    refine rd_get (own := RX7) (x := .int (nI (g 0))) S hG.1 iX7 (rP_0 hR) 6 rfl (by decide) w5 rfl dX7_digest_170 ?_
                    refine rx_V (As := [.int (nI k82), .int (nI (g 0))]) (rest := [.long (x26 * 31)]) (v := some (.int (dcd f g (nI k82) (nI (g 0))))) S hG (c_X7_decides l G hlf A f g H hR (nI k82) (nI (g 0))) gX7_digest_X7_decides rfl ⟨rfl, rfl⟩ nmX7_decides ⟨Nat.le_of_ble_eq_true rfl, Nat.le_of_ble_eq_true rfl⟩ (rd_rcv hG.1 (rP_0 hR) rfl) rfl hl.1 rfl (Nat.le_of_ble_eq_true rfl) ⟨Nat.le_of_ble_eq_true rfl, Nat.le_of_ble_eq_true rfl⟩ dX7_digest_173 hxt hlk ⟨Nat.le_of_ble_eq_true rfl, Nat.le_of_ble_eq_true rfl⟩ (fun E t hE _ => nomatch (show kOr (koIx (nI k82) (g 3)) (koArg (nI (g 0)) 0 399) = none from kOr2 (koIx_nI (by omega) (by omega)) (koArg_nI (k := (g 0)) (lo := 0) (hi := 399) (by omega) (by omega) (by omega))).symm.trans hE) (fun k27 => ?_)
                    refine W.eq (g2 := F0 mZ 176 ls [.int (dcd f g (nI k82) (nI (g 0))), .long (x26 * 31)]) rfl ?_
                    refine lv_i2l (v := (dcd f g (nI k82) (nI (g 0))).toInt64) hx hb dX7_digest_176 rfl ?_
                    refine lv_ladd hx hb dX7_digest_177 ?_
                    refine lv_topl (fun x28 ex28 => ?_)
                    refine lv_lstore_n (lv' := [(1, .long x28), (3, .int (nI k82)), (0, .ref (A 0))]) hx hb dX7_digest_178 rfl hl (by decide) rfl (fun ls hl => ?_)
                    refine lv_lload_n hx hb dX7_digest_179 rfl (lv_at hl 0 rfl) ?_
                    refine lv_ldc2 (own := RX7) (v := 31) hx hb hown w4 dX7_digest_180 ?_
                    refine lv_lmul hx hb dX7_digest_183 ?_
                    refine lv_aload_n hx hb dX7_digest_184 rfl (lv_at hl 2 rfl) ?_
                    refine lv_iload_n hx hb dX7_digest_185 rfl (lv_at hl 1 rfl) ?_
                    refine rx_V (As := [.int (nI k82)]) (rest := [.long (x28 * 31)]) (v := some (.int (uOn f g (nI k82) (400 - g 0) 0))) S hG (c_X7_unsafeOn l G hlf A f g H hR (nI k82) hg0) gX7_digest_X7_unsafeOn rfl ⟨rfl, rfl⟩ nmX7_unsafeOn ⟨Nat.le_of_ble_eq_true rfl, Nat.le_of_ble_eq_true rfl⟩ (rd_rcv hG.1 (rP_0 hR) rfl) rfl hl.1 rfl (Nat.le_of_ble_eq_true rfl) ⟨Nat.le_of_ble_eq_true rfl, Nat.le_of_ble_eq_true rfl⟩ dX7_digest_186 hxt hlk ⟨Nat.le_of_ble_eq_true rfl, Nat.le_of_ble_eq_true rfl⟩ (fun E t hE _ => nomatch (show koIx (nI k82) (g 3) = none from koIx_nI (by omega) (by omega)).symm.trans hE) (fun k29 => ?_)
                    refine W.eq (g2 := F0 mZ 189 ls [.int (uOn f g (nI k82) (400 - g 0) 0), .long (x28 * 31)]) rfl ?_
                    refine lv_i2l (v := (uOn f g (nI k82) (400 - g 0) 0).toInt64) hx hb dX7_digest_189 rfl ?_
                    refine lv_ladd hx hb dX7_digest_190 ?_
                    refine lv_topl (fun x30 ex30 => ?_)
                    refine lv_lstore_n (lv' := [(1, .long x30), (3, .int (nI k82)), (0, .ref (A 0))]) hx hb dX7_digest_191 rfl hl (by decide) rfl (fun ls hl => ?_)
                    refine lv_lload_n hx hb dX7_digest_192 rfl (lv_at hl 0 rfl) ?_
                    refine lv_ldc2 (own := RX7) (v := 31) hx hb hown w4 dX7_digest_193 ?_
                    refine lv_lmul hx hb dX7_digest_196 ?_
                    refine lv_aload_n hx hb dX7_digest_197 rfl (lv_at hl 2 rfl) ?_
                    refine lv_iload_n hx hb dX7_digest_198 rfl (lv_at hl 1 rfl) ?_
                    refine rx_V (As := [.int (nI k82)]) (rest := [.long (x30 * 31)]) (v := some (.int (rFo f g (nI k82)))) S hG (c_X7_raiseFor l G hlf A f g H hR (nI k82) hg0) gX7_digest_X7_raiseFor rfl ⟨rfl, rfl⟩ nmX7_raiseFor ⟨Nat.le_of_ble_eq_true rfl, Nat.le_of_ble_eq_true rfl⟩ (rd_rcv hG.1 (rP_0 hR) rfl) rfl hl.1 rfl (Nat.le_of_ble_eq_true rfl) ⟨Nat.le_of_ble_eq_true rfl, Nat.le_of_ble_eq_true rfl⟩ dX7_digest_199 hxt hlk ⟨Nat.le_of_ble_eq_true rfl, Nat.le_of_ble_eq_true rfl⟩ (fun E t hE _ => nomatch (show koIx (nI k82) (g 3) = none from koIx_nI (by omega) (by omega)).symm.trans hE) (fun k31 => ?_)
                    refine W.eq (g2 := F0 mZ 202 ls [.int (rFo f g (nI k82)), .long (x30 * 31)]) rfl ?_
                    refine lv_i2l (v := (rFo f g (nI k82)).toInt64) hx hb dX7_digest_202 rfl ?_
                    refine lv_ladd hx hb dX7_digest_203 ?_
                    refine lv_topl (fun x32 ex32 => ?_)
                    refine lv_lstore_n (lv' := [(1, .long x32), (3, .int (nI k82)), (0, .ref (A 0))]) hx hb dX7_digest_204 rfl hl (by decide) rfl (fun ls hl => ?_)
                    refine lv_iinc (v := nI (k82 + 1)) (lv' := [(3, .int (nI (k82 + 1))), (1, .long x32), (0, .ref (A 0))]) hx hb dX7_digest_205 hl (k := 1) rfl (nI_inc _) (by decide) rfl (fun ls hl => ?_)
                    refine lv_goto (tgt := 82) hx hb dX7_digest_208 (by decide) ?_
                    exact ih82 (k82 + 1) (by omega) _ (by subst ex32; subst ex30; subst ex28; subst ex26; subst ex24; subst ex22; subst ex20; subst ez82_1; subst ez33_1; subst ez6_1; rfl) ls (lv_sub hl [0, 1, 2] rfl)
              exact loop82 (g 3) 0 (by omega) _ (by subst ez33_1; subst ez6_1; first | rfl | first | rfl | (simp only [fl, dg5, c1, d1, c2, d2, ne_eq, not_true_eq_false, not_false_eq_true, and_true, true_and, and_false, false_and, or_true, true_or, or_false, false_or, and_self, or_self, decide_eq_true_eq, ↓reduceIte]; done) | (simp [fl, dg5, c1, d1, c2, d2]; done) | (simp only [fl, dg5, c1, d1, c2, d2, ne_eq, not_true_eq_false, not_false_eq_true, and_true, true_and, and_false, false_and, or_true, true_or, or_false, false_or, and_self, or_self, decide_eq_true_eq, ↓reduceIte])) ls (lv_sub hl [0, 1, 2] rfl)
            · exact absurd c2 (by first | exact fun h => absurd (Int32.le_refl _) h | exact nI_nlt (by omega) (by omega) | exact nI_ge (by omega) (by omega) | exact fun h => h (nI_lt (by omega) (by omega)) | exact fun h => h (nI_le (by omega) (by omega)) | exact fun h => h (lp_le_cnt _) | exact lp_nle (by omega))
          | succ n33 ih33 =>
            intro k33 hk33 z33_1 ez33_1 ls hl
            refine lv_iload_n hx hb dX7_digest_33 rfl (lv_at hl 0 rfl) ?_
            refine lv_aload_n hx hb dX7_digest_34 rfl (lv_at hl 2 rfl) ?_
            refine rd_get (own := RX7) (x := .ref (A 1)) S hG.1 iX7 (rP_0 hR) 0 rfl (by decide) w1 rfl dX7_digest_35 ?_
            refine rd_getN (own := RX7) (x := .int (nI (g 1))) S hG.1 iX4 (rP_1 hR) 5 rfl (by decide) nest_66 rfl dX7_digest_38 ?_
            refine lv_icmp_ge (tgt := 80) hx hb dX7_digest_41 (by decide) (fun c33 => ?_) (fun c33 => ?_)
            · exact absurd c33 (by first | exact fun h => absurd (Int32.le_refl _) h | exact nI_nlt (by omega) (by omega) | exact nI_ge (by omega) (by omega) | exact fun h => h (nI_lt (by omega) (by omega)) | exact fun h => h (nI_le (by omega) (by omega)) | exact fun h => h (lp_le_cnt _) | exact lp_nle (by omega))
            · have d33 := Int32.not_le.mp c33
              refine lv_iconst (v := 0) hx hb dX7_digest_44 (by decide) ?_
              refine lv_istore (lv' := [(4, .int 0), (3, .int (nI k33)), (1, .long z33_1), (0, .ref (A 0))]) hx hb dX7_digest_45 hl (by decide) rfl (fun ls hl => ?_)
              have loop47 : ∀ (n47 k47 : Nat), k47 + n47 = 5 → ∀ (z47_1 : Int64), z47_1 = fl k47 (fun w d => sd d (ofOb f (nI k33) (nI w))) (fl k33 (fun i d => fl 5 (fun w d => sd d (ofOb f (nI i) (nI w))) d) (dg1 f g)) → ∀ (ls : Array Slot), lv_has ls 5 [(4, .int (nI k47)), (1, .long z47_1), (0, .ref (A 0)), (3, .int (nI k33))] → W pZ l eZ ({ frames := 9, cells := 1, slots := 6, locals := 150 } : Room) sZ mZ ([.ref (A 0)] : List Value).toArray bZ meZ cZ H [] 0 0 (rx_Q bZ H [.ref (A 0)] sZ (none) (some (.long (dg5 f g)))) (F0 mZ 47 ls []) := by
                intro n47
                induction n47 with
                | zero =>
                  intro k47 hk47 z47_1 ez47_1 ls hl
                  obtain rfl : k47 = 5 := by omega
                  refine lv_iload hx hb dX7_digest_47 (lv_at hl 0 rfl) ?_
                  refine lv_iconst (v := 5) hx hb dX7_digest_49 (by decide) ?_
                  refine lv_icmp_ge (tgt := 74) hx hb dX7_digest_50 (by decide) (fun c34 => ?_) (fun c34 => ?_)
                  · have d34 := Int32.not_lt.mpr c34
                    refine lv_iinc (v := nI (k33 + 1)) (lv' := [(3, .int (nI (k33 + 1))), (4, .int (nI 5)), (1, .long z47_1), (0, .ref (A 0))]) hx hb dX7_digest_74 hl (k := 3) rfl (nI_inc _) (by decide) rfl (fun ls hl => ?_)
                    refine lv_goto (tgt := 33) hx hb dX7_digest_77 (by decide) ?_
                    exact ih33 (k33 + 1) (by omega) _ (by subst ez47_1; subst ez33_1; subst ez6_1; rfl) ls (lv_sub hl [0, 2, 3] rfl)
                  · have c34 : ¬ (nI 5 ≤ nI 5) := c34; exact absurd c34 (by first | exact fun h => absurd (Int32.le_refl _) h | exact nI_nlt (by omega) (by omega) | exact nI_ge (by omega) (by omega) | exact fun h => h (nI_lt (by omega) (by omega)) | exact fun h => h (nI_le (by omega) (by omega)) | exact fun h => h (lp_le_cnt _) | exact lp_nle (by omega))
                | succ n47 ih47 =>
                  intro k47 hk47 z47_1 ez47_1 ls hl
                  refine lv_iload hx hb dX7_digest_47 (lv_at hl 0 rfl) ?_
                  refine lv_iconst (v := 5) hx hb dX7_digest_49 (by decide) ?_
                  refine lv_icmp_ge (tgt := 74) hx hb dX7_digest_50 (by decide) (fun c35 => ?_) (fun c35 => ?_)
                  · have c35 : nI 5 ≤ nI k47 := c35; exact absurd c35 (by first | exact fun h => absurd (Int32.le_refl _) h | exact nI_nlt (by omega) (by omega) | exact nI_ge (by omega) (by omega) | exact fun h => h (nI_lt (by omega) (by omega)) | exact fun h => h (nI_le (by omega) (by omega)) | exact fun h => h (lp_le_cnt _) | exact lp_nle (by omega))
                  · have d35 := Int32.not_le.mp c35
                    refine lv_lload_n hx hb dX7_digest_53 rfl (lv_at hl 1 rfl) ?_
                    refine lv_ldc2 (own := RX7) (v := 31) hx hb hown w4 dX7_digest_54 ?_
                    refine lv_lmul hx hb dX7_digest_57 ?_
                    refine lv_aload_n hx hb dX7_digest_58 rfl (lv_at hl 2 rfl) ?_
                    refine lv_iload_n hx hb dX7_digest_59 rfl (lv_at hl 3 rfl) ?_
                    refine lv_iload hx hb dX7_digest_60 (lv_at hl 0 rfl) ?_
                    refine rx_V (As := [.int (nI k33), .int (nI k47)]) (rest := [.long (z47_1 * 31)]) (v := some (.int (ofOb f (nI k33) (nI k47)))) S hG (c_X7_ofObstacle l G hlf A f g H hR (nI k33) (nI k47)) gX7_digest_X7_ofObstacle rfl ⟨rfl, rfl⟩ nmX7_ofObstacle ⟨Nat.le_of_ble_eq_true rfl, Nat.le_of_ble_eq_true rfl⟩ (rd_rcv hG.1 (rP_0 hR) rfl) rfl hl.1 rfl (Nat.le_of_ble_eq_true rfl) ⟨Nat.le_of_ble_eq_true rfl, Nat.le_of_ble_eq_true rfl⟩ dX7_digest_62 hxt hlk ⟨Nat.le_of_ble_eq_true rfl, Nat.le_of_ble_eq_true rfl⟩ (fun E t hE _ => nomatch (show kOr (koIx (nI k33) (g 1)) (koArg (nI k47) 0 4) = none from kOr2 (koIx_nI (by omega) (by omega)) (koArg_nI (k := k47) (lo := 0) (hi := 4) (by omega) (by omega) (by omega))).symm.trans hE) (fun k36 => ?_)
                    refine W.eq (g2 := F0 mZ 65 ls [.int (ofOb f (nI k33) (nI k47)), .long (z47_1 * 31)]) rfl ?_
                    refine lv_i2l (v := (ofOb f (nI k33) (nI k47)).toInt64) hx hb dX7_digest_65 rfl ?_
                    refine lv_ladd hx hb dX7_digest_66 ?_
                    refine lv_topl (fun x37 ex37 => ?_)
                    refine lv_lstore_n (lv' := [(1, .long x37), (4, .int (nI k47)), (0, .ref (A 0)), (3, .int (nI k33))]) hx hb dX7_digest_67 rfl hl (by decide) rfl (fun ls hl => ?_)
                    refine lv_iinc (v := nI (k47 + 1)) (lv' := [(4, .int (nI (k47 + 1))), (1, .long x37), (0, .ref (A 0)), (3, .int (nI k33))]) hx hb dX7_digest_68 hl (k := 1) rfl (nI_inc _) (by decide) rfl (fun ls hl => ?_)
                    refine lv_goto (tgt := 47) hx hb dX7_digest_71 (by decide) ?_
                    exact ih47 (k47 + 1) (by omega) _ (by subst ex37; subst ez47_1; subst ez33_1; subst ez6_1; rfl) ls (lv_sub hl [0, 1, 2, 3] rfl)
              exact loop47 5 0 (by omega) _ (by subst ez33_1; subst ez6_1; first | rfl | first | rfl | (simp only [fl, dg5, c1, d1, c33, d33, ne_eq, not_true_eq_false, not_false_eq_true, and_true, true_and, and_false, false_and, or_true, true_or, or_false, false_or, and_self, or_self, decide_eq_true_eq, ↓reduceIte]; done) | (simp [fl, dg5, c1, d1, c33, d33]; done) | (simp only [fl, dg5, c1, d1, c33, d33, ne_eq, not_true_eq_false, not_false_eq_true, and_true, true_and, and_false, false_and, or_true, true_or, or_false, false_or, and_self, or_self, decide_eq_true_eq, ↓reduceIte])) ls (lv_sub hl [0, 2, 3, 1] rfl)
        exact loop33 (g 1) 0 (by omega) _ (by subst ez6_1; first | rfl | first | rfl | (simp only [fl, dg5, c1, d1, ne_eq, not_true_eq_false, not_false_eq_true, and_true, true_and, and_false, false_and, or_true, true_or, or_false, false_or, and_self, or_self, decide_eq_true_eq, ↓reduceIte]; done) | (simp [fl, dg5, c1, d1]; done) | (simp only [fl, dg5, c1, d1, ne_eq, not_true_eq_false, not_false_eq_true, and_true, true_and, and_false, false_and, or_true, true_or, or_false, false_or, and_self, or_self, decide_eq_true_eq, ↓reduceIte])) ls (lv_sub hl [0, 1, 2] rfl)
      · have c1 : ¬ (nI 20 ≤ nI 20) := c1; exact absurd c1 (by first | exact fun h => absurd (Int32.le_refl _) h | exact nI_nlt (by omega) (by omega) | exact nI_ge (by omega) (by omega) | exact fun h => h (nI_lt (by omega) (by omega)) | exact fun h => h (nI_le (by omega) (by omega)) | exact fun h => h (lp_le_cnt _) | exact lp_nle (by omega))
    | succ n6 ih6 =>
      intro k6 hk6 z6_1 ez6_1 ls hl
      refine lv_iload_n hx hb dX7_digest_6 rfl (lv_at hl 0 rfl) ?_
      refine lv_bipush (v := 20) hx hb dX7_digest_7 (by decide) ?_
      refine lv_icmp_ge (tgt := 31) hx hb dX7_digest_9 (by decide) (fun c38 => ?_) (fun c38 => ?_)
      · have c38 : nI 20 ≤ nI k6 := c38; exact absurd c38 (by first | exact fun h => absurd (Int32.le_refl _) h | exact nI_nlt (by omega) (by omega) | exact nI_ge (by omega) (by omega) | exact fun h => h (nI_lt (by omega) (by omega)) | exact fun h => h (nI_le (by omega) (by omega)) | exact fun h => h (lp_le_cnt _) | exact lp_nle (by omega))
      · have d38 := Int32.not_le.mp c38
        refine lv_lload_n hx hb dX7_digest_12 rfl (lv_at hl 1 rfl) ?_
        refine lv_ldc2 (own := RX7) (v := 31) hx hb hown w4 dX7_digest_13 ?_
        refine lv_lmul hx hb dX7_digest_16 ?_
        refine lv_aload_n hx hb dX7_digest_17 rfl (lv_at hl 2 rfl) ?_
        refine lv_iload_n hx hb dX7_digest_18 rfl (lv_at hl 0 rfl) ?_
        refine rx_V (As := [.int (nI k6)]) (rest := [.long (z6_1 * 31)]) (v := some (.int (mny f g (nI k6)))) S hG (c_X7_many l G hlf A f g H hR (nI k6)) gX7_digest_X7_many rfl ⟨rfl, rfl⟩ nmX7_many ⟨Nat.le_of_ble_eq_true rfl, Nat.le_of_ble_eq_true rfl⟩ (rd_rcv hG.1 (rP_0 hR) rfl) rfl hl.1 rfl (Nat.le_of_ble_eq_true rfl) ⟨Nat.le_of_ble_eq_true rfl, Nat.le_of_ble_eq_true rfl⟩ dX7_digest_19 hxt hlk ⟨Nat.le_of_ble_eq_true rfl, Nat.le_of_ble_eq_true rfl⟩ (fun E t hE _ => nomatch (show koArg (nI k6) 0 19 = none from (koArg_nI (k := k6) (lo := 0) (hi := 19) (by omega) (by omega) (by omega))).symm.trans hE) (fun k39 => ?_)
        refine W.eq (g2 := F0 mZ 22 ls [.int (mny f g (nI k6)), .long (z6_1 * 31)]) rfl ?_
        refine lv_i2l (v := (mny f g (nI k6)).toInt64) hx hb dX7_digest_22 rfl ?_
        refine lv_ladd hx hb dX7_digest_23 ?_
        refine lv_topl (fun x40 ex40 => ?_)
        refine lv_lstore_n (lv' := [(1, .long x40), (3, .int (nI k6)), (0, .ref (A 0))]) hx hb dX7_digest_24 rfl hl (by decide) rfl (fun ls hl => ?_)
        refine lv_iinc (v := nI (k6 + 1)) (lv' := [(3, .int (nI (k6 + 1))), (1, .long x40), (0, .ref (A 0))]) hx hb dX7_digest_25 hl (k := 1) rfl (nI_inc _) (by decide) rfl (fun ls hl => ?_)
        refine lv_goto (tgt := 6) hx hb dX7_digest_28 (by decide) ?_
        exact ih6 (k6 + 1) (by omega) _ (by subst ex40; subst ez6_1; rfl) ls (lv_sub hl [0, 1, 2] rfl)
  exact loop6 20 0 (by omega) _ (by first | rfl | first | rfl | (simp only [fl, dg5, ne_eq, not_true_eq_false, not_false_eq_true, and_true, true_and, and_false, false_and, or_true, true_or, or_false, false_or, and_self, or_self, decide_eq_true_eq, ↓reduceIte]; done) | (simp [fl, dg5]; done) | (simp only [fl, dg5, ne_eq, not_true_eq_false, not_false_eq_true, and_true, true_and, and_false, false_and, or_true, true_or, or_false, false_or, and_self, or_self, decide_eq_true_eq, ↓reduceIte])) ls (lv_sub hl [0, 1, 2] rfl)
