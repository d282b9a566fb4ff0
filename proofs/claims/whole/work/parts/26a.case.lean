/-! the law, case by case -/
section QCA
variable {p : Program} {l : Launch} {e : Env} {s : State} {m : MethodId} {args : Array Value} {below : List Frame} {meth : Method} {c : Code} {H : Heap} {locs : List Loc} {cells slots : Nat} {Q : State → Prop} {G : GT} {f : Nat → Nat → Int32} {g : Nat → Nat} {th : Int32} {b Lx i : Nat} {xs : Nat → Int32} {ls : Array Slot}
set_option maxHeartbeats 1000000 in
set_option maxRecDepth 100000 in
theorem lc_obstacle (S : CallFix p m c cL_law 9 s args wsL_law RL) (hlf : l.stackTraces = false) (hz : G.2.2.1 = s.heap.size) (hG : GK G s.heap s) (hN : GN s) (hX : GX s) (hXs : va_X b Lx xs s s.heap) (hbl : b < s.heap.size) (hi : i + 5 < Lx) (hLx : Lx ≤ 3072) (hI : qLW G s th f g H locs) (hc : cells + 30 ≤ 1063676 ∧ slots + 2000 ≤ 5905075) (hl : lv_has ls 9 [(5, .int (nI i)), (0, .ref b), (1, .ref s.heap.size), (2, .ref (s.heap.size + 47)), (3, .ref (s.heap.size + 55)), (4, .ref (s.heap.size + 56))])   (kk : ∀ (th2 : Int32) (f2 : Nat → Nat → Int32) (g2 : Nat → Nat) (H2 : Heap) (locs2 : List Loc) (cells2 slots2 : Nat) (ls2 : Array Slot), qLW G s th2 f2 g2 H2 locs2 → cells2 ≤ cells + 21 → slots2 ≤ slots + 1660 → lv_has ls2 9 [(5, .int (nI i)), (0, .ref b), (1, .ref s.heap.size), (2, .ref (s.heap.size + 47)), (3, .ref (s.heap.size + 55)), (4, .ref (s.heap.size + 56))] → W p l e room_1 s m args below meth c H2 locs2 cells2 slots2 Q (F0 m 2103 ls2 [])) : W p l e room_1 s m args below meth c H locs cells slots Q (F0 m 172 ls []) := by
  have hx := S.1
  have hb := S.2.1
  have h0 := lv_at hl 1 rfl
  have h5 := lv_at hl 0 rfl
  refine lv_aload_n hx hb dL_law_172 rfl (lv_at hl 2 rfl) ?_
  refine law_arg (j := 1) S hXs hbl hI.2.2.2.2.2.2 rfl (by omega) hLx h0 h5 dL_law_173 dL_law_174 dL_law_176 dL_law_177 dL_law_178 ?_
  refine law_arg (j := 2) S hXs hbl hI.2.2.2.2.2.2 rfl (by omega) hLx h0 h5 dL_law_179 dL_law_180 dL_law_182 dL_law_183 dL_law_184 ?_
  refine law_arg (j := 3) S hXs hbl hI.2.2.2.2.2.2 rfl (by omega) hLx h0 h5 dL_law_185 dL_law_186 dL_law_188 dL_law_189 dL_law_190 ?_
  refine law_arg (j := 4) S hXs hbl hI.2.2.2.2.2.2 rfl (by omega) hLx h0 h5 dL_law_191 dL_law_192 dL_law_194 dL_law_195 dL_law_196 ?_
  refine law_arg (j := 5) S hXs hbl hI.2.2.2.2.2.2 rfl (by omega) hLx h0 h5 dL_law_197 dL_law_198 dL_law_200 dL_law_201 dL_law_202 ?_
  refine lv_aload_n hx hb dL_law_203 rfl (lv_at hl 4 rfl) ?_
  refine law_W (As := [.ref s.heap.size, .int (xs (i + 1)), .int (xs (i + 2)), .int (xs (i + 3)), .int (xs (i + 4)), .int (xs (i + 5)), .ref (s.heap.size + 55)]) (rest := []) S hz hG hN hI (fun r hr => c_L_obstacle l G hlf (A0 s.heap.size) f g H hI.1 (ra_0 (Nat.le_of_eq hz)) (s.heap.size + 55) r hr (fun j hj => by have := A0_lt (z := s.heap.size) hj; omega) (xs (i + 1)) (xs (i + 2)) (xs (i + 3)) (xs (i + 4)) (xs (i + 5))) gL_law_L_obstacle rfl ⟨rfl, rfl⟩ nmL_obstacle ⟨Nat.le_of_ble_eq_true rfl, Nat.le_of_ble_eq_true rfl⟩ rfl hl.1 rfl (Nat.le_of_ble_eq_true rfl) ⟨by show cells + 1 ≤ 1063676; omega, by show slots + 6 ≤ 5905075; omega⟩ dL_law_204 (fun H2 locs2 hA2 => ?_)
  refine lv_istore (lv' := (6, _) :: [(5, .int (nI i)), (0, .ref b), (1, .ref s.heap.size), (2, .ref (s.heap.size + 47)), (3, .ref (s.heap.size + 55)), (4, .ref (s.heap.size + 56))]) hx hb dL_law_207 hl (by decide) rfl (fun ls hl => ?_)
  have h0 := lv_at hl 2 rfl
  have h5 := lv_at hl 1 rfl
  refine lv_aload_n hx hb dL_law_209 rfl (lv_at hl 4 rfl) ?_
  refine law_arg (j := 1) S hXs hbl hA2.2.2.2.2.2 rfl (by omega) hLx h0 h5 dL_law_210 dL_law_211 dL_law_213 dL_law_214 dL_law_215 ?_
  refine law_arg (j := 2) S hXs hbl hA2.2.2.2.2.2 rfl (by omega) hLx h0 h5 dL_law_216 dL_law_217 dL_law_219 dL_law_220 dL_law_221 ?_
  refine law_arg (j := 3) S hXs hbl hA2.2.2.2.2.2 rfl (by omega) hLx h0 h5 dL_law_222 dL_law_223 dL_law_225 dL_law_226 dL_law_227 ?_
  refine law_arg (j := 4) S hXs hbl hA2.2.2.2.2.2 rfl (by omega) hLx h0 h5 dL_law_228 dL_law_229 dL_law_231 dL_law_232 dL_law_233 ?_
  refine law_arg (j := 5) S hXs hbl hA2.2.2.2.2.2 rfl (by omega) hLx h0 h5 dL_law_234 dL_law_235 dL_law_237 dL_law_238 dL_law_239 ?_
  refine law_M (As := [.int (xs (i + 1)), .int (xs (i + 2)), .int (xs (i + 3)), .int (xs (i + 4)), .int (xs (i + 5))]) (rest := []) S hz hG hX hA2 (fun B mc cp m1 m2 m3 m4 => lm_obstacle l G (qlD s.heap.size) B mc cp th f g H2 hI.2.1 m1 m2 m3 m4 (xs (i + 1)) (xs (i + 2)) (xs (i + 3)) (xs (i + 4)) (xs (i + 5))) gL_law_X11_obstacle rfl ⟨rfl, rfl⟩ nmX11_obstacle ⟨Nat.le_of_ble_eq_true rfl, Nat.le_of_ble_eq_true rfl⟩ rfl hl.1 rfl (Nat.le_of_ble_eq_true rfl) ⟨by show cells + 1 + 2 ≤ 1063676; omega, by show slots + 6 + 45 ≤ 5905075; omega⟩ dL_law_240 (fun H3 locs3 va hB3 => ?_)
  refine lv_istore (lv' := (7, _) :: (6, _) :: [(5, .int (nI i)), (0, .ref b), (1, .ref s.heap.size), (2, .ref (s.heap.size + 47)), (3, .ref (s.heap.size + 55)), (4, .ref (s.heap.size + 56))]) hx hb dL_law_243 hl (by decide) rfl (fun ls hl => ?_)
  exact law_tail (t := 245) S hz hG hB3 (by decide) hI.2.1 (fun hk => ll_obstacle hI.2.1 hk) ⟨Nat.le_of_ble_eq_true rfl, Nat.le_of_ble_eq_true rfl⟩ ⟨by show cells + 1 + 2 ≤ 1063676; omega, by show slots + 6 + 45 ≤ 5905075; omega⟩ hl dL_law_245 dL_law_246 dL_law_249 dL_law_251 dL_law_256 dL_law_258 dL_law_261 dL_law_262 dL_law_263 dL_law_264 dL_law_266 dL_law_267 dL_law_268 dL_law_273 (by decide) (fun f2 g2 ls2 hW hl2 => kk _ f2 g2 H3 locs3 _ _ ls2 hW (by omega) (by omega) hl2)
set_option maxHeartbeats 1000000 in
set_option maxRecDepth 100000 in
theorem lc_end (S : CallFix p m c cL_law 9 s args wsL_law RL) (hlf : l.stackTraces = false) (hz : G.2.2.1 = s.heap.size) (hG : GK G s.heap s) (hN : GN s) (hX : GX s) (hXs : va_X b Lx xs s s.heap) (hbl : b < s.heap.size) (hi : i + 5 < Lx) (hLx : Lx ≤ 3072) (hI : qLW G s th f g H locs) (hc : cells + 30 ≤ 1063676 ∧ slots + 2000 ≤ 5905075) (hl : lv_has ls 9 [(5, .int (nI i)), (0, .ref b), (1, .ref s.heap.size), (2, .ref (s.heap.size + 47)), (3, .ref (s.heap.size + 55)), (4, .ref (s.heap.size + 56))])   (kk : ∀ (th2 : Int32) (f2 : Nat → Nat → Int32) (g2 : Nat → Nat) (H2 : Heap) (locs2 : List Loc) (cells2 slots2 : Nat) (ls2 : Array Slot), qLW G s th2 f2 g2 H2 locs2 → cells2 ≤ cells + 21 → slots2 ≤ slots + 1660 → lv_has ls2 9 [(5, .int (nI i)), (0, .ref b), (1, .ref s.heap.size), (2, .ref (s.heap.size + 47)), (3, .ref (s.heap.size + 55)), (4, .ref (s.heap.size + 56))] → W p l e room_1 s m args below meth c H2 locs2 cells2 slots2 Q (F0 m 2103 ls2 [])) : W p l e room_1 s m args below meth c H locs cells slots Q (F0 m 276 ls []) := by
  have hx := S.1
  have hb := S.2.1
  have h0 := lv_at hl 1 rfl
  have h5 := lv_at hl 0 rfl
  refine lv_aload_n hx hb dL_law_276 rfl (lv_at hl 2 rfl) ?_
  refine law_arg (j := 1) S hXs hbl hI.2.2.2.2.2.2 rfl (by omega) hLx h0 h5 dL_law_277 dL_law_278 dL_law_280 dL_law_281 dL_law_282 ?_
  refine lv_aload_n hx hb dL_law_283 rfl (lv_at hl 4 rfl) ?_
  refine law_W (As := [.ref s.heap.size, .int (xs (i + 1)), .ref (s.heap.size + 55)]) (rest := []) S hz hG hN hI (fun r hr => c_L_end l G hlf (A0 s.heap.size) f g H hI.1 (ra_0 (Nat.le_of_eq hz)) (s.heap.size + 55) r hr (fun j hj => by have := A0_lt (z := s.heap.size) hj; omega) (xs (i + 1))) gL_law_L_end rfl ⟨rfl, rfl⟩ nmL_end ⟨Nat.le_of_ble_eq_true rfl, Nat.le_of_ble_eq_true rfl⟩ rfl hl.1 rfl (Nat.le_of_ble_eq_true rfl) ⟨by show cells + 1 ≤ 1063676; omega, by show slots + 6 ≤ 5905075; omega⟩ dL_law_284 (fun H2 locs2 hA2 => ?_)
  refine lv_istore (lv' := (6, _) :: [(5, .int (nI i)), (0, .ref b), (1, .ref s.heap.size), (2, .ref (s.heap.size + 47)), (3, .ref (s.heap.size + 55)), (4, .ref (s.heap.size + 56))]) hx hb dL_law_287 hl (by decide) rfl (fun ls hl => ?_)
  have h0 := lv_at hl 2 rfl
  have h5 := lv_at hl 1 rfl
  refine lv_aload_n hx hb dL_law_289 rfl (lv_at hl 4 rfl) ?_
  refine law_arg (j := 1) S hXs hbl hA2.2.2.2.2.2 rfl (by omega) hLx h0 h5 dL_law_290 dL_law_291 dL_law_293 dL_law_294 dL_law_295 ?_
  refine law_M (As := [.int (xs (i + 1))]) (rest := []) S hz hG hX hA2 (fun B mc cp m1 m2 m3 m4 => lm_end l G (qlD s.heap.size) B mc cp th f g H2 hI.2.1 m1 m2 m3 m4 (xs (i + 1))) gL_law_X11_end rfl ⟨rfl, rfl⟩ nmX11_end ⟨Nat.le_of_ble_eq_true rfl, Nat.le_of_ble_eq_true rfl⟩ rfl hl.1 rfl (Nat.le_of_ble_eq_true rfl) ⟨by show cells + 1 + 0 ≤ 1063676; omega, by show slots + 6 + 0 ≤ 5905075; omega⟩ dL_law_296 (fun H3 locs3 va hB3 => ?_)
  refine lv_istore (lv' := (7, _) :: (6, _) :: [(5, .int (nI i)), (0, .ref b), (1, .ref s.heap.size), (2, .ref (s.heap.size + 47)), (3, .ref (s.heap.size + 55)), (4, .ref (s.heap.size + 56))]) hx hb dL_law_299 hl (by decide) rfl (fun ls hl => ?_)
  exact law_tail (t := 301) S hz hG hB3 (by decide) hI.2.1 (fun hk => ll_end hI.2.1 hk) ⟨Nat.le_of_ble_eq_true rfl, Nat.le_of_ble_eq_true rfl⟩ ⟨by show cells + 1 + 0 ≤ 1063676; omega, by show slots + 6 + 0 ≤ 5905075; omega⟩ hl dL_law_301 dL_law_302 dL_law_305 dL_law_307 dL_law_312 dL_law_314 dL_law_317 dL_law_318 dL_law_319 dL_law_320 dL_law_322 dL_law_323 dL_law_324 dL_law_329 (by decide) (fun f2 g2 ls2 hW hl2 => kk _ f2 g2 H3 locs3 _ _ ls2 hW (by omega) (by omega) hl2)
set_option maxHeartbeats 1000000 in
set_option maxRecDepth 100000 in
theorem lc_aid (S : CallFix p m c cL_law 9 s args wsL_law RL) (hlf : l.stackTraces = false) (hz : G.2.2.1 = s.heap.size) (hG : GK G s.heap s) (hN : GN s) (hX : GX s) (hXs : va_X b Lx xs s s.heap) (hbl : b < s.heap.size) (hi : i + 5 < Lx) (hLx : Lx ≤ 3072) (hI : qLW G s th f g H locs) (hc : cells + 30 ≤ 1063676 ∧ slots + 2000 ≤ 5905075) (hl : lv_has ls 9 [(5, .int (nI i)), (0, .ref b), (1, .ref s.heap.size), (2, .ref (s.heap.size + 47)), (3, .ref (s.heap.size + 55)), (4, .ref (s.heap.size + 56))])   (kk : ∀ (th2 : Int32) (f2 : Nat → Nat → Int32) (g2 : Nat → Nat) (H2 : Heap) (locs2 : List Loc) (cells2 slots2 : Nat) (ls2 : Array Slot), qLW G s th2 f2 g2 H2 locs2 → cells2 ≤ cells + 21 → slots2 ≤ slots + 1660 → lv_has ls2 9 [(5, .int (nI i)), (0, .ref b), (1, .ref s.heap.size), (2, .ref (s.heap.size + 47)), (3, .ref (s.heap.size + 55)), (4, .ref (s.heap.size + 56))] → W p l e room_1 s m args below meth c H2 locs2 cells2 slots2 Q (F0 m 2103 ls2 [])) : W p l e room_1 s m args below meth c H locs cells slots Q (F0 m 332 ls []) := by
  have hx := S.1
  have hb := S.2.1
  have h0 := lv_at hl 1 rfl
  have h5 := lv_at hl 0 rfl
  refine lv_aload_n hx hb dL_law_332 rfl (lv_at hl 2 rfl) ?_
  refine law_arg (j := 1) S hXs hbl hI.2.2.2.2.2.2 rfl (by omega) hLx h0 h5 dL_law_333 dL_law_334 dL_law_336 dL_law_337 dL_law_338 ?_
  refine law_arg (j := 2) S hXs hbl hI.2.2.2.2.2.2 rfl (by omega) hLx h0 h5 dL_law_339 dL_law_340 dL_law_342 dL_law_343 dL_law_344 ?_
  refine lv_aload_n hx hb dL_law_345 rfl (lv_at hl 4 rfl) ?_
  refine law_W (As := [.ref s.heap.size, .int (xs (i + 1)), .int (xs (i + 2)), .ref (s.heap.size + 55)]) (rest := []) S hz hG hN hI (fun r hr => c_L_aid l G hlf (A0 s.heap.size) f g H hI.1 (ra_0 (Nat.le_of_eq hz)) (s.heap.size + 55) r hr (fun j hj => by have := A0_lt (z := s.heap.size) hj; omega) (xs (i + 1)) (xs (i + 2))) gL_law_L_aid rfl ⟨rfl, rfl⟩ nmL_aid ⟨Nat.le_of_ble_eq_true rfl, Nat.le_of_ble_eq_true rfl⟩ rfl hl.1 rfl (Nat.le_of_ble_eq_true rfl) ⟨by show cells + 1 ≤ 1063676; omega, by show slots + 6 ≤ 5905075; omega⟩ dL_law_346 (fun H2 locs2 hA2 => ?_)
  refine lv_istore (lv' := (6, _) :: [(5, .int (nI i)), (0, .ref b), (1, .ref s.heap.size), (2, .ref (s.heap.size + 47)), (3, .ref (s.heap.size + 55)), (4, .ref (s.heap.size + 56))]) hx hb dL_law_349 hl (by decide) rfl (fun ls hl => ?_)
  have h0 := lv_at hl 2 rfl
  have h5 := lv_at hl 1 rfl
  refine lv_aload_n hx hb dL_law_351 rfl (lv_at hl 4 rfl) ?_
  refine law_arg (j := 1) S hXs hbl hA2.2.2.2.2.2 rfl (by omega) hLx h0 h5 dL_law_352 dL_law_353 dL_law_355 dL_law_356 dL_law_357 ?_
  refine law_arg (j := 2) S hXs hbl hA2.2.2.2.2.2 rfl (by omega) hLx h0 h5 dL_law_358 dL_law_359 dL_law_361 dL_law_362 dL_law_363 ?_
  refine law_M (As := [.int (xs (i + 1)), .int (xs (i + 2))]) (rest := []) S hz hG hX hA2 (fun B mc cp m1 m2 m3 m4 => lm_aid l G (qlD s.heap.size) B mc cp th f g H2 hI.2.1 m1 m2 m3 m4 (xs (i + 1)) (xs (i + 2))) gL_law_X11_aid rfl ⟨rfl, rfl⟩ nmX11_aid ⟨Nat.le_of_ble_eq_true rfl, Nat.le_of_ble_eq_true rfl⟩ rfl hl.1 rfl (Nat.le_of_ble_eq_true rfl) ⟨by show cells + 1 + 0 ≤ 1063676; omega, by show slots + 6 + 0 ≤ 5905075; omega⟩ dL_law_364 (fun H3 locs3 va hB3 => ?_)
  refine lv_istore (lv' := (7, _) :: (6, _) :: [(5, .int (nI i)), (0, .ref b), (1, .ref s.heap.size), (2, .ref (s.heap.size + 47)), (3, .ref (s.heap.size + 55)), (4, .ref (s.heap.size + 56))]) hx hb dL_law_367 hl (by decide) rfl (fun ls hl => ?_)
  exact law_tail (t := 369) S hz hG hB3 (by decide) hI.2.1 (fun hk => ll_aid hI.2.1 hk) ⟨Nat.le_of_ble_eq_true rfl, Nat.le_of_ble_eq_true rfl⟩ ⟨by show cells + 1 + 0 ≤ 1063676; omega, by show slots + 6 + 0 ≤ 5905075; omega⟩ hl dL_law_369 dL_law_370 dL_law_373 dL_law_375 dL_law_380 dL_law_382 dL_law_385 dL_law_386 dL_law_387 dL_law_388 dL_law_390 dL_law_391 dL_law_392 dL_law_397 (by decide) (fun f2 g2 ls2 hW hl2 => kk _ f2 g2 H3 locs3 _ _ ls2 hW (by omega) (by omega) hl2)
set_option maxHeartbeats 1000000 in
set_option maxRecDepth 100000 in
theorem lc_check (S : CallFix p m c cL_law 9 s args wsL_law RL) (hlf : l.stackTraces = false) (hz : G.2.2.1 = s.heap.size) (hG : GK G s.heap s) (hN : GN s) (hX : GX s) (hXs : va_X b Lx xs s s.heap) (hbl : b < s.heap.size) (hi : i + 5 < Lx) (hLx : Lx ≤ 3072) (hI : qLW G s th f g H locs) (hc : cells + 30 ≤ 1063676 ∧ slots + 2000 ≤ 5905075) (hl : lv_has ls 9 [(5, .int (nI i)), (0, .ref b), (1, .ref s.heap.size), (2, .ref (s.heap.size + 47)), (3, .ref (s.heap.size + 55)), (4, .ref (s.heap.size + 56))])   (kk : ∀ (th2 : Int32) (f2 : Nat → Nat → Int32) (g2 : Nat → Nat) (H2 : Heap) (locs2 : List Loc) (cells2 slots2 : Nat) (ls2 : Array Slot), qLW G s th2 f2 g2 H2 locs2 → cells2 ≤ cells + 21 → slots2 ≤ slots + 1660 → lv_has ls2 9 [(5, .int (nI i)), (0, .ref b), (1, .ref s.heap.size), (2, .ref (s.heap.size + 47)), (3, .ref (s.heap.size + 55)), (4, .ref (s.heap.size + 56))] → W p l e room_1 s m args below meth c H2 locs2 cells2 slots2 Q (F0 m 2103 ls2 [])) : W p l e room_1 s m args below meth c H locs cells slots Q (F0 m 400 ls []) := by
  have hx := S.1
  have hb := S.2.1
  have h0 := lv_at hl 1 rfl
  have h5 := lv_at hl 0 rfl
  refine lv_aload_n hx hb dL_law_400 rfl (lv_at hl 2 rfl) ?_
  refine law_arg (j := 1) S hXs hbl hI.2.2.2.2.2.2 rfl (by omega) hLx h0 h5 dL_law_401 dL_law_402 dL_law_404 dL_law_405 dL_law_406 ?_
  refine law_arg (j := 2) S hXs hbl hI.2.2.2.2.2.2 rfl (by omega) hLx h0 h5 dL_law_407 dL_law_408 dL_law_410 dL_law_411 dL_law_412 ?_
  refine lv_aload_n hx hb dL_law_413 rfl (lv_at hl 4 rfl) ?_
  refine law_W (As := [.ref s.heap.size, .int (xs (i + 1)), .int (xs (i + 2)), .ref (s.heap.size + 55)]) (rest := []) S hz hG hN hI (fun r hr => c_L_check l G hlf (A0 s.heap.size) f g H hI.1 (ra_0 (Nat.le_of_eq hz)) (s.heap.size + 55) r hr (fun j hj => by have := A0_lt (z := s.heap.size) hj; omega) (xs (i + 1)) (xs (i + 2))) gL_law_L_check rfl ⟨rfl, rfl⟩ nmL_check ⟨Nat.le_of_ble_eq_true rfl, Nat.le_of_ble_eq_true rfl⟩ rfl hl.1 rfl (Nat.le_of_ble_eq_true rfl) ⟨by show cells + 1 ≤ 1063676; omega, by show slots + 6 ≤ 5905075; omega⟩ dL_law_414 (fun H2 locs2 hA2 => ?_)
  refine lv_istore (lv' := (6, _) :: [(5, .int (nI i)), (0, .ref b), (1, .ref s.heap.size), (2, .ref (s.heap.size + 47)), (3, .ref (s.heap.size + 55)), (4, .ref (s.heap.size + 56))]) hx hb dL_law_417 hl (by decide) rfl (fun ls hl => ?_)
  have h0 := lv_at hl 2 rfl
  have h5 := lv_at hl 1 rfl
  refine lv_aload_n hx hb dL_law_419 rfl (lv_at hl 4 rfl) ?_
  refine law_arg (j := 1) S hXs hbl hA2.2.2.2.2.2 rfl (by omega) hLx h0 h5 dL_law_420 dL_law_421 dL_law_423 dL_law_424 dL_law_425 ?_
  refine law_arg (j := 2) S hXs hbl hA2.2.2.2.2.2 rfl (by omega) hLx h0 h5 dL_law_426 dL_law_427 dL_law_429 dL_law_430 dL_law_431 ?_
  refine law_M (As := [.int (xs (i + 1)), .int (xs (i + 2))]) (rest := []) S hz hG hX hA2 (fun B mc cp m1 m2 m3 m4 => lm_check l G (qlD s.heap.size) B mc cp th f g H2 hI.2.1 m1 m2 m3 m4 (xs (i + 1)) (xs (i + 2))) gL_law_X11_check rfl ⟨rfl, rfl⟩ nmX11_check ⟨Nat.le_of_ble_eq_true rfl, Nat.le_of_ble_eq_true rfl⟩ rfl hl.1 rfl (Nat.le_of_ble_eq_true rfl) ⟨by show cells + 1 + 0 ≤ 1063676; omega, by show slots + 6 + 0 ≤ 5905075; omega⟩ dL_law_432 (fun H3 locs3 va hB3 => ?_)
  refine lv_istore (lv' := (7, _) :: (6, _) :: [(5, .int (nI i)), (0, .ref b), (1, .ref s.heap.size), (2, .ref (s.heap.size + 47)), (3, .ref (s.heap.size + 55)), (4, .ref (s.heap.size + 56))]) hx hb dL_law_435 hl (by decide) rfl (fun ls hl => ?_)
  exact law_tail (t := 437) S hz hG hB3 (by decide) hI.2.1 (fun hk => ll_check hI.2.1 hk) ⟨Nat.le_of_ble_eq_true rfl, Nat.le_of_ble_eq_true rfl⟩ ⟨by show cells + 1 + 0 ≤ 1063676; omega, by show slots + 6 + 0 ≤ 5905075; omega⟩ hl dL_law_437 dL_law_438 dL_law_441 dL_law_443 dL_law_448 dL_law_450 dL_law_453 dL_law_454 dL_law_455 dL_law_456 dL_law_458 dL_law_459 dL_law_460 dL_law_465 (by decide) (fun f2 g2 ls2 hW hl2 => kk _ f2 g2 H3 locs3 _ _ ls2 hW (by omega) (by omega) hl2)
set_option maxHeartbeats 1000000 in
set_option maxRecDepth 100000 in
theorem lc_procedure (S : CallFix p m c cL_law 9 s args wsL_law RL) (hlf : l.stackTraces = false) (hz : G.2.2.1 = s.heap.size) (hG : GK G s.heap s) (hN : GN s) (hX : GX s) (hXs : va_X b Lx xs s s.heap) (hbl : b < s.heap.size) (hi : i + 5 < Lx) (hLx : Lx ≤ 3072) (hI : qLW G s th f g H locs) (hc : cells + 30 ≤ 1063676 ∧ slots + 2000 ≤ 5905075) (hl : lv_has ls 9 [(5, .int (nI i)), (0, .ref b), (1, .ref s.heap.size), (2, .ref (s.heap.size + 47)), (3, .ref (s.heap.size + 55)), (4, .ref (s.heap.size + 56))])   (kk : ∀ (th2 : Int32) (f2 : Nat → Nat → Int32) (g2 : Nat → Nat) (H2 : Heap) (locs2 : List Loc) (cells2 slots2 : Nat) (ls2 : Array Slot), qLW G s th2 f2 g2 H2 locs2 → cells2 ≤ cells + 21 → slots2 ≤ slots + 1660 → lv_has ls2 9 [(5, .int (nI i)), (0, .ref b), (1, .ref s.heap.size), (2, .ref (s.heap.size + 47)), (3, .ref (s.heap.size + 55)), (4, .ref (s.heap.size + 56))] → W p l e room_1 s m args below meth c H2 locs2 cells2 slots2 Q (F0 m 2103 ls2 [])) : W p l e room_1 s m args below meth c H locs cells slots Q (F0 m 468 ls []) := by
  have hx := S.1
  have hb := S.2.1
  have h0 := lv_at hl 1 rfl
  have h5 := lv_at hl 0 rfl
  refine lv_aload_n hx hb dL_law_468 rfl (lv_at hl 2 rfl) ?_
  refine law_arg (j := 1) S hXs hbl hI.2.2.2.2.2.2 rfl (by omega) hLx h0 h5 dL_law_469 dL_law_470 dL_law_472 dL_law_473 dL_law_474 ?_
  refine law_arg (j := 2) S hXs hbl hI.2.2.2.2.2.2 rfl (by omega) hLx h0 h5 dL_law_475 dL_law_476 dL_law_478 dL_law_479 dL_law_480 ?_
  refine lv_aload_n hx hb dL_law_481 rfl (lv_at hl 4 rfl) ?_
  refine law_W (As := [.ref s.heap.size, .int (xs (i + 1)), .int (xs (i + 2)), .ref (s.heap.size + 55)]) (rest := []) S hz hG hN hI (fun r hr => c_L_procedure l G hlf (A0 s.heap.size) f g H hI.1 (ra_0 (Nat.le_of_eq hz)) (s.heap.size + 55) r hr (fun j hj => by have := A0_lt (z := s.heap.size) hj; omega) (xs (i + 1)) (xs (i + 2))) gL_law_L_procedure rfl ⟨rfl, rfl⟩ nmL_procedure ⟨Nat.le_of_ble_eq_true rfl, Nat.le_of_ble_eq_true rfl⟩ rfl hl.1 rfl (Nat.le_of_ble_eq_true rfl) ⟨by show cells + 1 ≤ 1063676; omega, by show slots + 6 ≤ 5905075; omega⟩ dL_law_482 (fun H2 locs2 hA2 => ?_)
  refine lv_istore (lv' := (6, _) :: [(5, .int (nI i)), (0, .ref b), (1, .ref s.heap.size), (2, .ref (s.heap.size + 47)), (3, .ref (s.heap.size + 55)), (4, .ref (s.heap.size + 56))]) hx hb dL_law_485 hl (by decide) rfl (fun ls hl => ?_)
  have h0 := lv_at hl 2 rfl
  have h5 := lv_at hl 1 rfl
  refine lv_aload_n hx hb dL_law_487 rfl (lv_at hl 4 rfl) ?_
  refine law_arg (j := 1) S hXs hbl hA2.2.2.2.2.2 rfl (by omega) hLx h0 h5 dL_law_488 dL_law_489 dL_law_491 dL_law_492 dL_law_493 ?_
  refine law_arg (j := 2) S hXs hbl hA2.2.2.2.2.2 rfl (by omega) hLx h0 h5 dL_law_494 dL_law_495 dL_law_497 dL_law_498 dL_law_499 ?_
  refine law_M (As := [.int (xs (i + 1)), .int (xs (i + 2))]) (rest := []) S hz hG hX hA2 (fun B mc cp m1 m2 m3 m4 => lm_procedure l G (qlD s.heap.size) B mc cp th f g H2 hI.2.1 m1 m2 m3 m4 (xs (i + 1)) (xs (i + 2))) gL_law_X11_procedure rfl ⟨rfl, rfl⟩ nmX11_procedure ⟨Nat.le_of_ble_eq_true rfl, Nat.le_of_ble_eq_true rfl⟩ rfl hl.1 rfl (Nat.le_of_ble_eq_true rfl) ⟨by show cells + 1 + 3 ≤ 1063676; omega, by show slots + 6 + 46 ≤ 5905075; omega⟩ dL_law_500 (fun H3 locs3 va hB3 => ?_)
  refine lv_istore (lv' := (7, _) :: (6, _) :: [(5, .int (nI i)), (0, .ref b), (1, .ref s.heap.size), (2, .ref (s.heap.size + 47)), (3, .ref (s.heap.size + 55)), (4, .ref (s.heap.size + 56))]) hx hb dL_law_503 hl (by decide) rfl (fun ls hl => ?_)
  exact law_tail (t := 505) S hz hG hB3 (by decide) hI.2.1 (fun hk => ll_procedure hI.2.1 hk) ⟨Nat.le_of_ble_eq_true rfl, Nat.le_of_ble_eq_true rfl⟩ ⟨by show cells + 1 + 3 ≤ 1063676; omega, by show slots + 6 + 46 ≤ 5905075; omega⟩ hl dL_law_505 dL_law_506 dL_law_509 dL_law_511 dL_law_516 dL_law_518 dL_law_521 dL_law_522 dL_law_523 dL_law_524 dL_law_526 dL_law_527 dL_law_528 dL_law_533 (by decide) (fun f2 g2 ls2 hW hl2 => kk _ f2 g2 H3 locs3 _ _ ls2 hW (by omega) (by omega) hl2)
set_option maxHeartbeats 1000000 in
set_option maxRecDepth 100000 in
theorem lc_pass (S : CallFix p m c cL_law 9 s args wsL_law RL) (hlf : l.stackTraces = false) (hz : G.2.2.1 = s.heap.size) (hG : GK G s.heap s) (hN : GN s) (hX : GX s) (hXs : va_X b Lx xs s s.heap) (hbl : b < s.heap.size) (hi : i + 5 < Lx) (hLx : Lx ≤ 3072) (hI : qLW G s th f g H locs) (hc : cells + 30 ≤ 1063676 ∧ slots + 2000 ≤ 5905075) (hl : lv_has ls 9 [(5, .int (nI i)), (0, .ref b), (1, .ref s.heap.size), (2, .ref (s.heap.size + 47)), (3, .ref (s.heap.size + 55)), (4, .ref (s.heap.size + 56))])   (kk : ∀ (th2 : Int32) (f2 : Nat → Nat → Int32) (g2 : Nat → Nat) (H2 : Heap) (locs2 : List Loc) (cells2 slots2 : Nat) (ls2 : Array Slot), qLW G s th2 f2 g2 H2 locs2 → cells2 ≤ cells + 21 → slots2 ≤ slots + 1660 → lv_has ls2 9 [(5, .int (nI i)), (0, .ref b), (1, .ref s.heap.size), (2, .ref (s.heap.size + 47)), (3, .ref (s.heap.size + 55)), (4, .ref (s.heap.size + 56))] → W p l e room_1 s m args below meth c H2 locs2 cells2 slots2 Q (F0 m 2103 ls2 [])) : W p l e room_1 s m args below meth c H locs cells slots Q (F0 m 536 ls []) := by
  have hx := S.1
  have hb := S.2.1
  have h0 := lv_at hl 1 rfl
  have h5 := lv_at hl 0 rfl
  refine lv_aload_n hx hb dL_law_536 rfl (lv_at hl 2 rfl) ?_
  refine law_arg (j := 1) S hXs hbl hI.2.2.2.2.2.2 rfl (by omega) hLx h0 h5 dL_law_537 dL_law_538 dL_law_540 dL_law_541 dL_law_542 ?_
  refine lv_aload_n hx hb dL_law_543 rfl (lv_at hl 4 rfl) ?_
  refine law_W (As := [.ref s.heap.size, .int (xs (i + 1)), .ref (s.heap.size + 55)]) (rest := []) S hz hG hN hI (fun r hr => c_L_pass l G hlf (A0 s.heap.size) f g H hI.1 (ra_0 (Nat.le_of_eq hz)) (s.heap.size + 55) r hr (fun j hj => by have := A0_lt (z := s.heap.size) hj; omega) (xs (i + 1)) hI.2.1.1.1 hI.2.1.1.2.2.2.2.2) gL_law_L_pass rfl ⟨rfl, rfl⟩ nmL_pass ⟨Nat.le_of_ble_eq_true rfl, Nat.le_of_ble_eq_true rfl⟩ rfl hl.1 rfl (Nat.le_of_ble_eq_true rfl) ⟨by show cells + 1 ≤ 1063676; omega, by show slots + 6 ≤ 5905075; omega⟩ dL_law_544 (fun H2 locs2 hA2 => ?_)
  refine lv_istore (lv' := (6, _) :: [(5, .int (nI i)), (0, .ref b), (1, .ref s.heap.size), (2, .ref (s.heap.size + 47)), (3, .ref (s.heap.size + 55)), (4, .ref (s.heap.size + 56))]) hx hb dL_law_547 hl (by decide) rfl (fun ls hl => ?_)
  have h0 := lv_at hl 2 rfl
  have h5 := lv_at hl 1 rfl
  refine lv_aload_n hx hb dL_law_549 rfl (lv_at hl 4 rfl) ?_
  refine law_arg (j := 1) S hXs hbl hA2.2.2.2.2.2 rfl (by omega) hLx h0 h5 dL_law_550 dL_law_551 dL_law_553 dL_law_554 dL_law_555 ?_
  refine law_M (As := [.int (xs (i + 1))]) (rest := []) S hz hG hX hA2 (fun B mc cp m1 m2 m3 m4 => lm_pass l G (qlD s.heap.size) B mc cp th f g H2 hI.2.1 m1 m2 m3 m4 (xs (i + 1))) gL_law_X11_pass rfl ⟨rfl, rfl⟩ nmX11_pass ⟨Nat.le_of_ble_eq_true rfl, Nat.le_of_ble_eq_true rfl⟩ rfl hl.1 rfl (Nat.le_of_ble_eq_true rfl) ⟨by show cells + 1 + 0 ≤ 1063676; omega, by show slots + 6 + 0 ≤ 5905075; omega⟩ dL_law_556 (fun H3 locs3 va hB3 => ?_)
  refine lv_istore (lv' := (7, _) :: (6, _) :: [(5, .int (nI i)), (0, .ref b), (1, .ref s.heap.size), (2, .ref (s.heap.size + 47)), (3, .ref (s.heap.size + 55)), (4, .ref (s.heap.size + 56))]) hx hb dL_law_559 hl (by decide) rfl (fun ls hl => ?_)
  exact law_tail (t := 561) S hz hG hB3 (by decide) hI.2.1 (fun hk => ll_pass hI.2.1 hk) ⟨Nat.le_of_ble_eq_true rfl, Nat.le_of_ble_eq_true rfl⟩ ⟨by show cells + 1 + 0 ≤ 1063676; omega, by show slots + 6 + 0 ≤ 5905075; omega⟩ hl dL_law_561 dL_law_562 dL_law_565 dL_law_567 dL_law_572 dL_law_574 dL_law_577 dL_law_578 dL_law_579 dL_law_580 dL_law_582 dL_law_583 dL_law_584 dL_law_589 (by decide) (fun f2 g2 ls2 hW hl2 => kk _ f2 g2 H3 locs3 _ _ ls2 hW (by omega) (by omega) hl2)
set_option maxHeartbeats 1000000 in
set_option maxRecDepth 100000 in
theorem lc_amend (S : CallFix p m c cL_law 9 s args wsL_law RL) (hlf : l.stackTraces = false) (hz : G.2.2.1 = s.heap.size) (hG : GK G s.heap s) (hN : GN s) (hX : GX s) (hXs : va_X b Lx xs s s.heap) (hbl : b < s.heap.size) (hi : i + 5 < Lx) (hLx : Lx ≤ 3072) (hI : qLW G s th f g H locs) (hc : cells + 30 ≤ 1063676 ∧ slots + 2000 ≤ 5905075) (hl : lv_has ls 9 [(5, .int (nI i)), (0, .ref b), (1, .ref s.heap.size), (2, .ref (s.heap.size + 47)), (3, .ref (s.heap.size + 55)), (4, .ref (s.heap.size + 56))])   (kk : ∀ (th2 : Int32) (f2 : Nat → Nat → Int32) (g2 : Nat → Nat) (H2 : Heap) (locs2 : List Loc) (cells2 slots2 : Nat) (ls2 : Array Slot), qLW G s th2 f2 g2 H2 locs2 → cells2 ≤ cells + 21 → slots2 ≤ slots + 1660 → lv_has ls2 9 [(5, .int (nI i)), (0, .ref b), (1, .ref s.heap.size), (2, .ref (s.heap.size + 47)), (3, .ref (s.heap.size + 55)), (4, .ref (s.heap.size + 56))] → W p l e room_1 s m args below meth c H2 locs2 cells2 slots2 Q (F0 m 2103 ls2 [])) : W p l e room_1 s m args below meth c H locs cells slots Q (F0 m 592 ls []) := by
  have hx := S.1
  have hb := S.2.1
  have h0 := lv_at hl 1 rfl
  have h5 := lv_at hl 0 rfl
  refine lv_aload_n hx hb dL_law_592 rfl (lv_at hl 2 rfl) ?_
  refine law_arg (j := 1) S hXs hbl hI.2.2.2.2.2.2 rfl (by omega) hLx h0 h5 dL_law_593 dL_law_594 dL_law_596 dL_law_597 dL_law_598 ?_
  refine lv_aload_n hx hb dL_law_599 rfl (lv_at hl 4 rfl) ?_
  refine law_W (As := [.ref s.heap.size, .int (xs (i + 1)), .ref (s.heap.size + 55)]) (rest := []) S hz hG hN hI (fun r hr => c_L_amend l G hlf (A0 s.heap.size) f g H hI.1 (ra_0 (Nat.le_of_eq hz)) (s.heap.size + 55) r hr (fun j hj => by have := A0_lt (z := s.heap.size) hj; omega) (xs (i + 1)) hI.2.1.1.1) gL_law_L_amend rfl ⟨rfl, rfl⟩ nmL_amend ⟨Nat.le_of_ble_eq_true rfl, Nat.le_of_ble_eq_true rfl⟩ rfl hl.1 rfl (Nat.le_of_ble_eq_true rfl) ⟨by show cells + 1 ≤ 1063676; omega, by show slots + 6 ≤ 5905075; omega⟩ dL_law_600 (fun H2 locs2 hA2 => ?_)
  refine lv_istore (lv' := (6, _) :: [(5, .int (nI i)), (0, .ref b), (1, .ref s.heap.size), (2, .ref (s.heap.size + 47)), (3, .ref (s.heap.size + 55)), (4, .ref (s.heap.size + 56))]) hx hb dL_law_603 hl (by decide) rfl (fun ls hl => ?_)
  have h0 := lv_at hl 2 rfl
  have h5 := lv_at hl 1 rfl
  refine lv_aload_n hx hb dL_law_605 rfl (lv_at hl 4 rfl) ?_
  refine law_arg (j := 1) S hXs hbl hA2.2.2.2.2.2 rfl (by omega) hLx h0 h5 dL_law_606 dL_law_607 dL_law_609 dL_law_610 dL_law_611 ?_
  refine law_M (As := [.int (xs (i + 1))]) (rest := []) S hz hG hX hA2 (fun B mc cp m1 m2 m3 m4 => lm_amend l G (qlD s.heap.size) B mc cp th f g H2 hI.2.1 m1 m2 m3 m4 (xs (i + 1))) gL_law_X11_amend rfl ⟨rfl, rfl⟩ nmX11_amend ⟨Nat.le_of_ble_eq_true rfl, Nat.le_of_ble_eq_true rfl⟩ rfl hl.1 rfl (Nat.le_of_ble_eq_true rfl) ⟨by show cells + 1 + 2 ≤ 1063676; omega, by show slots + 6 + 42 ≤ 5905075; omega⟩ dL_law_612 (fun H3 locs3 va hB3 => ?_)
  refine lv_istore (lv' := (7, _) :: (6, _) :: [(5, .int (nI i)), (0, .ref b), (1, .ref s.heap.size), (2, .ref (s.heap.size + 47)), (3, .ref (s.heap.size + 55)), (4, .ref (s.heap.size + 56))]) hx hb dL_law_615 hl (by decide) rfl (fun ls hl => ?_)
  exact law_tail (t := 617) S hz hG hB3 (by decide) hI.2.1 (fun hk => ll_amend hI.2.1 hk) ⟨Nat.le_of_ble_eq_true rfl, Nat.le_of_ble_eq_true rfl⟩ ⟨by show cells + 1 + 2 ≤ 1063676; omega, by show slots + 6 + 42 ≤ 5905075; omega⟩ hl dL_law_617 dL_law_618 dL_law_621 dL_law_623 dL_law_628 dL_law_630 dL_law_633 dL_law_634 dL_law_635 dL_law_636 dL_law_638 dL_law_639 dL_law_640 dL_law_645 (by decide) (fun f2 g2 ls2 hW hl2 => kk _ f2 g2 H3 locs3 _ _ ls2 hW (by omega) (by omega) hl2)
set_option maxHeartbeats 1000000 in
set_option maxRecDepth 100000 in
theorem lc_raise (S : CallFix p m c cL_law 9 s args wsL_law RL) (hlf : l.stackTraces = false) (hz : G.2.2.1 = s.heap.size) (hG : GK G s.heap s) (hN : GN s) (hX : GX s) (hXs : va_X b Lx xs s s.heap) (hbl : b < s.heap.size) (hi : i + 5 < Lx) (hLx : Lx ≤ 3072) (hI : qLW G s th f g H locs) (hc : cells + 30 ≤ 1063676 ∧ slots + 2000 ≤ 5905075) (hl : lv_has ls 9 [(5, .int (nI i)), (0, .ref b), (1, .ref s.heap.size), (2, .ref (s.heap.size + 47)), (3, .ref (s.heap.size + 55)), (4, .ref (s.heap.size + 56))])   (kk : ∀ (th2 : Int32) (f2 : Nat → Nat → Int32) (g2 : Nat → Nat) (H2 : Heap) (locs2 : List Loc) (cells2 slots2 : Nat) (ls2 : Array Slot), qLW G s th2 f2 g2 H2 locs2 → cells2 ≤ cells + 21 → slots2 ≤ slots + 1660 → lv_has ls2 9 [(5, .int (nI i)), (0, .ref b), (1, .ref s.heap.size), (2, .ref (s.heap.size + 47)), (3, .ref (s.heap.size + 55)), (4, .ref (s.heap.size + 56))] → W p l e room_1 s m args below meth c H2 locs2 cells2 slots2 Q (F0 m 2103 ls2 [])) : W p l e room_1 s m args below meth c H locs cells slots Q (F0 m 648 ls []) := by
  have hx := S.1
  have hb := S.2.1
  have h0 := lv_at hl 1 rfl
  have h5 := lv_at hl 0 rfl
  refine lv_aload_n hx hb dL_law_648 rfl (lv_at hl 2 rfl) ?_
  refine law_arg (j := 1) S hXs hbl hI.2.2.2.2.2.2 rfl (by omega) hLx h0 h5 dL_law_649 dL_law_650 dL_law_652 dL_law_653 dL_law_654 ?_
  refine law_arg (j := 2) S hXs hbl hI.2.2.2.2.2.2 rfl (by omega) hLx h0 h5 dL_law_655 dL_law_656 dL_law_658 dL_law_659 dL_law_660 ?_
  refine law_arg (j := 3) S hXs hbl hI.2.2.2.2.2.2 rfl (by omega) hLx h0 h5 dL_law_661 dL_law_662 dL_law_664 dL_law_665 dL_law_666 ?_
  refine law_arg (j := 4) S hXs hbl hI.2.2.2.2.2.2 rfl (by omega) hLx h0 h5 dL_law_667 dL_law_668 dL_law_670 dL_law_671 dL_law_672 ?_
  refine lv_aload_n hx hb dL_law_673 rfl (lv_at hl 4 rfl) ?_
  refine law_W (As := [.ref s.heap.size, .int (xs (i + 1)), .int (xs (i + 2)), .int (xs (i + 3)), .int (xs (i + 4)), .ref (s.heap.size + 55)]) (rest := []) S hz hG hN hI (fun r hr => c_L_raise l G hlf (A0 s.heap.size) f g H hI.1 (ra_0 (Nat.le_of_eq hz)) (s.heap.size + 55) r hr (fun j hj => by have := A0_lt (z := s.heap.size) hj; omega) (xs (i + 1)) (xs (i + 2)) (xs (i + 3)) (xs (i + 4))) gL_law_L_raise rfl ⟨rfl, rfl⟩ nmL_raise ⟨Nat.le_of_ble_eq_true rfl, Nat.le_of_ble_eq_true rfl⟩ rfl hl.1 rfl (Nat.le_of_ble_eq_true rfl) ⟨by show cells + 1 ≤ 1063676; omega, by show slots + 6 ≤ 5905075; omega⟩ dL_law_674 (fun H2 locs2 hA2 => ?_)
  refine lv_istore (lv' := (6, _) :: [(5, .int (nI i)), (0, .ref b), (1, .ref s.heap.size), (2, .ref (s.heap.size + 47)), (3, .ref (s.heap.size + 55)), (4, .ref (s.heap.size + 56))]) hx hb dL_law_677 hl (by decide) rfl (fun ls hl => ?_)
  have h0 := lv_at hl 2 rfl
  have h5 := lv_at hl 1 rfl
  refine lv_aload_n hx hb dL_law_679 rfl (lv_at hl 4 rfl) ?_
  refine law_arg (j := 1) S hXs hbl hA2.2.2.2.2.2 rfl (by omega) hLx h0 h5 dL_law_680 dL_law_681 dL_law_683 dL_law_684 dL_law_685 ?_
  refine law_arg (j := 2) S hXs hbl hA2.2.2.2.2.2 rfl (by omega) hLx h0 h5 dL_law_686 dL_law_687 dL_law_689 dL_law_690 dL_law_691 ?_
  refine law_arg (j := 3) S hXs hbl hA2.2.2.2.2.2 rfl (by omega) hLx h0 h5 dL_law_692 dL_law_693 dL_law_695 dL_law_696 dL_law_697 ?_
  refine law_arg (j := 4) S hXs hbl hA2.2.2.2.2.2 rfl (by omega) hLx h0 h5 dL_law_698 dL_law_699 dL_law_701 dL_law_702 dL_law_703 ?_
  refine law_M (As := [.int (xs (i + 1)), .int (xs (i + 2)), .int (xs (i + 3)), .int (xs (i + 4))]) (rest := []) S hz hG hX hA2 (fun B mc cp m1 m2 m3 m4 => lm_raise l G (qlD s.heap.size) B mc cp th f g H2 hI.2.1 m1 m2 m3 m4 (xs (i + 1)) (xs (i + 2)) (xs (i + 3)) (xs (i + 4))) gL_law_X11_raise rfl ⟨rfl, rfl⟩ nmX11_raise ⟨Nat.le_of_ble_eq_true rfl, Nat.le_of_ble_eq_true rfl⟩ rfl hl.1 rfl (Nat.le_of_ble_eq_true rfl) ⟨by show cells + 1 + 2 ≤ 1063676; omega, by show slots + 6 + 45 ≤ 5905075; omega⟩ dL_law_704 (fun H3 locs3 va hB3 => ?_)
  refine lv_istore (lv' := (7, _) :: (6, _) :: [(5, .int (nI i)), (0, .ref b), (1, .ref s.heap.size), (2, .ref (s.heap.size + 47)), (3, .ref (s.heap.size + 55)), (4, .ref (s.heap.size + 56))]) hx hb dL_law_707 hl (by decide) rfl (fun ls hl => ?_)
  exact law_tail (t := 709) S hz hG hB3 (by decide) hI.2.1 (fun hk => ll_raise hI.2.1 hk) ⟨Nat.le_of_ble_eq_true rfl, Nat.le_of_ble_eq_true rfl⟩ ⟨by show cells + 1 + 2 ≤ 1063676; omega, by show slots + 6 + 45 ≤ 5905075; omega⟩ hl dL_law_709 dL_law_710 dL_law_713 dL_law_715 dL_law_720 dL_law_722 dL_law_725 dL_law_726 dL_law_727 dL_law_728 dL_law_730 dL_law_731 dL_law_732 dL_law_737 (by decide) (fun f2 g2 ls2 hW hl2 => kk _ f2 g2 H3 locs3 _ _ ls2 hW (by omega) (by omega) hl2)
set_option maxHeartbeats 1000000 in
set_option maxRecDepth 100000 in
theorem lc_out (S : CallFix p m c cL_law 9 s args wsL_law RL) (hlf : l.stackTraces = false) (hz : G.2.2.1 = s.heap.size) (hG : GK G s.heap s) (hN : GN s) (hX : GX s) (hXs : va_X b Lx xs s s.heap) (hbl : b < s.heap.size) (hi : i + 5 < Lx) (hLx : Lx ≤ 3072) (hI : qLW G s th f g H locs) (hc : cells + 30 ≤ 1063676 ∧ slots + 2000 ≤ 5905075) (hl : lv_has ls 9 [(5, .int (nI i)), (0, .ref b), (1, .ref s.heap.size), (2, .ref (s.heap.size + 47)), (3, .ref (s.heap.size + 55)), (4, .ref (s.heap.size + 56))])   (kk : ∀ (th2 : Int32) (f2 : Nat → Nat → Int32) (g2 : Nat → Nat) (H2 : Heap) (locs2 : List Loc) (cells2 slots2 : Nat) (ls2 : Array Slot), qLW G s th2 f2 g2 H2 locs2 → cells2 ≤ cells + 21 → slots2 ≤ slots + 1660 → lv_has ls2 9 [(5, .int (nI i)), (0, .ref b), (1, .ref s.heap.size), (2, .ref (s.heap.size + 47)), (3, .ref (s.heap.size + 55)), (4, .ref (s.heap.size + 56))] → W p l e room_1 s m args below meth c H2 locs2 cells2 slots2 Q (F0 m 2103 ls2 [])) : W p l e room_1 s m args below meth c H locs cells slots Q (F0 m 740 ls []) := by
  have hx := S.1
  have hb := S.2.1
  have h0 := lv_at hl 1 rfl
  have h5 := lv_at hl 0 rfl
  refine lv_aload_n hx hb dL_law_740 rfl (lv_at hl 2 rfl) ?_
  refine law_arg (j := 1) S hXs hbl hI.2.2.2.2.2.2 rfl (by omega) hLx h0 h5 dL_law_741 dL_law_742 dL_law_744 dL_law_745 dL_law_746 ?_
  refine law_arg (j := 2) S hXs hbl hI.2.2.2.2.2.2 rfl (by omega) hLx h0 h5 dL_law_747 dL_law_748 dL_law_750 dL_law_751 dL_law_752 ?_
  refine law_arg (j := 3) S hXs hbl hI.2.2.2.2.2.2 rfl (by omega) hLx h0 h5 dL_law_753 dL_law_754 dL_law_756 dL_law_757 dL_law_758 ?_
  refine lv_aload_n hx hb dL_law_759 rfl (lv_at hl 4 rfl) ?_
  refine law_W (As := [.ref s.heap.size, .int (xs (i + 1)), .int (xs (i + 2)), .int (xs (i + 3)), .ref (s.heap.size + 55)]) (rest := []) S hz hG hN hI (fun r hr => c_L_out l G hlf (A0 s.heap.size) f g H hI.1 (ra_0 (Nat.le_of_eq hz)) (s.heap.size + 55) r hr (fun j hj => by have := A0_lt (z := s.heap.size) hj; omega) (xs (i + 1)) (xs (i + 2)) (xs (i + 3))) gL_law_L_out rfl ⟨rfl, rfl⟩ nmL_out ⟨Nat.le_of_ble_eq_true rfl, Nat.le_of_ble_eq_true rfl⟩ rfl hl.1 rfl (Nat.le_of_ble_eq_true rfl) ⟨by show cells + 1 ≤ 1063676; omega, by show slots + 6 ≤ 5905075; omega⟩ dL_law_760 (fun H2 locs2 hA2 => ?_)
  refine lv_istore (lv' := (6, _) :: [(5, .int (nI i)), (0, .ref b), (1, .ref s.heap.size), (2, .ref (s.heap.size + 47)), (3, .ref (s.heap.size + 55)), (4, .ref (s.heap.size + 56))]) hx hb dL_law_763 hl (by decide) rfl (fun ls hl => ?_)
  have h0 := lv_at hl 2 rfl
  have h5 := lv_at hl 1 rfl
  refine lv_aload_n hx hb dL_law_765 rfl (lv_at hl 4 rfl) ?_
  refine law_arg (j := 1) S hXs hbl hA2.2.2.2.2.2 rfl (by omega) hLx h0 h5 dL_law_766 dL_law_767 dL_law_769 dL_law_770 dL_law_771 ?_
  refine law_arg (j := 2) S hXs hbl hA2.2.2.2.2.2 rfl (by omega) hLx h0 h5 dL_law_772 dL_law_773 dL_law_775 dL_law_776 dL_law_777 ?_
  refine law_arg (j := 3) S hXs hbl hA2.2.2.2.2.2 rfl (by omega) hLx h0 h5 dL_law_778 dL_law_779 dL_law_781 dL_law_782 dL_law_783 ?_
  refine law_M (As := [.int (xs (i + 1)), .int (xs (i + 2)), .int (xs (i + 3))]) (rest := []) S hz hG hX hA2 (fun B mc cp m1 m2 m3 m4 => lm_out l G (qlD s.heap.size) B mc cp th f g H2 hI.2.1 m1 m2 m3 m4 (xs (i + 1)) (xs (i + 2)) (xs (i + 3))) gL_law_X11_out rfl ⟨rfl, rfl⟩ nmX11_out ⟨Nat.le_of_ble_eq_true rfl, Nat.le_of_ble_eq_true rfl⟩ rfl hl.1 rfl (Nat.le_of_ble_eq_true rfl) ⟨by show cells + 1 + 2 ≤ 1063676; omega, by show slots + 6 + 45 ≤ 5905075; omega⟩ dL_law_784 (fun H3 locs3 va hB3 => ?_)
  refine lv_istore (lv' := (7, _) :: (6, _) :: [(5, .int (nI i)), (0, .ref b), (1, .ref s.heap.size), (2, .ref (s.heap.size + 47)), (3, .ref (s.heap.size + 55)), (4, .ref (s.heap.size + 56))]) hx hb dL_law_787 hl (by decide) rfl (fun ls hl => ?_)
  exact law_tail (t := 789) S hz hG hB3 (by decide) hI.2.1 (fun hk => ll_out hI.2.1 hk) ⟨Nat.le_of_ble_eq_true rfl, Nat.le_of_ble_eq_true rfl⟩ ⟨by show cells + 1 + 2 ≤ 1063676; omega, by show slots + 6 + 45 ≤ 5905075; omega⟩ hl dL_law_789 dL_law_790 dL_law_793 dL_law_795 dL_law_800 dL_law_802 dL_law_805 dL_law_806 dL_law_807 dL_law_808 dL_law_810 dL_law_811 dL_law_812 dL_law_817 (by decide) (fun f2 g2 ls2 hW hl2 => kk _ f2 g2 H3 locs3 _ _ ls2 hW (by omega) (by omega) hl2)
end QCA
