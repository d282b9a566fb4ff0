theorem nmL_ofObstacle : nmV yL_ofObstacle RL 4 := by decide +kernel
set_option maxHeartbeats 1000000 in
set_option maxRecDepth 100000 in
theorem c_L_ofObstacle (l : Launch) (G : GT) (hlf : l.stackTraces = false) (A : Nat → Nat) (f : Nat → Nat → Int32) (g : Nat → Nat) (H : Heap) (hR : RP G A f g H) (hA : RA G A) (o : Nat) (r : Nat → Int64) (ho : va_at G.1 vwCl (o, oL G r) H) (hoA : ∀ k, rD k → o ≠ A k) (i w : Int32) : WLV l G A o H yL_ofObstacle wsL_ofObstacle { frames := 8, cells := 1, slots := 6, locals := 126 } [.ref (A 0), .int i, .int w, .ref o] [xIOB, xIAE] (kOr (koIx i (g 1)) (koArg w 0 4)) (ofOb f i w) f g (f) (g) := by
  refine wl_of (cc := cL_ofObstacle) (maxL := 5) (ret := some .int) (hh := [(0, 10, 13, 21), (0, 10, 17, 13)]) (by decide) rfl (Nat.le_of_ble_eq_true rfl) ?_
  intro pZ eZ sZ mZ bZ meZ cZ ls S hr hlk hxt hl hHs hG hN
  have S : CallFix pZ mZ cZ cL_ofObstacle 5 sZ _ wsL_ofObstacle RL := S
  have hx := S.1
  have hb := S.2.1
  have hown := S.2.2.2.1
  have hts := S.2.2.2.2
  have hl : lv_has ls 5 [(0, .ref (A 0)), (1, .int i), (2, .int w), (3, .ref o)] := hl
  refine lv_aload_n hx hb dL_ofObstacle_0 rfl (lv_at hl 3 rfl) ?_
  refine lv_iconst (v := 0) hx hb dL_ofObstacle_1 (by decide) ?_
  refine lv_aload_n hx hb dL_ofObstacle_2 rfl (lv_at hl 0 rfl) ?_
  refine lv_iload_n hx hb dL_ofObstacle_3 rfl (lv_at hl 1 rfl) ?_
  refine lv_iload_n hx hb dL_ofObstacle_4 rfl (lv_at hl 2 rfl) ?_
  refine wl_V (As := [.int i, .int w]) (rest := [.int 0, .ref o]) S hG hA (wx_of_rx (c_X7_ofObstacle l G hlf A f g H hR i w) hR) gL_ofObstacle_X7_ofObstacle rfl ⟨rfl, rfl⟩ nmX7_ofObstacle ⟨Nat.le_of_ble_eq_true rfl, Nat.le_of_ble_eq_true rfl⟩ (rd_rcv hG.1 (rP_0 hR) rfl) rfl hl.1 rfl (Nat.le_of_ble_eq_true rfl) ⟨Nat.le_of_ble_eq_true rfl, Nat.le_of_ble_eq_true rfl⟩ dL_ofObstacle_5 (fun hk H2 locs2 hR2 hch hA0 hG2 => ?_) (fun E H2 locs2 q ce hk hext hA0 hG2 hce hcv hcl => ?_)
  · refine W.eq (g2 := F0 mZ 8 ls [.int (ofOb f i w), .int 0, .ref o]) rfl ?_
    refine lv_i2l (v := (ofOb f i w : Int32).toInt64) hx hb dL_ofObstacle_8 rfl ?_
    refine wl_last S hG2.1 (va_at.kept ho (hch.2 _ (va_at.lt ho) (fun k hk9 => hoA k hk9))) dL_ofObstacle_9 (fun H3 z hz hn3 hzs hq => ?_)
    refine lv_goto (tgt := 21) hx hb dL_ofObstacle_10 (by decide) ?_
    refine lv_iconst (v := 0) hx hb dL_ofObstacle_21 (by decide) ?_
    exact wl_iret S hr hlk hk hch hA0 hR2 hoA hz (r := vp_updL r 0 _) pk_uLs hn3 hzs hq dL_ofObstacle_22
  · have hE := (show KO [xIOB, xIAE] _ from (KO_or (KO_Ix (by decide +kernel)) (KO_Arg (by decide +kernel)))) E hk
    simp only [List.mem_cons, List.not_mem_nil, or_false] at hE
    rcases hE with rfl | rfl
    · refine vx_catch (own := RL) (name := xIOB) hown [] (⟨0, 10, 13, 21⟩ : ExceptionTableEntry) [(⟨0, 10, 17, 13⟩ : ExceptionTableEntry)] (by rw [hxt]; rfl) (fun _ h => nomatch h) (by decide) (by decide) (hts (.classLink RL 21 xIOB) (by decide +kernel)) (va_Nw.use rfl (hG2.1.2.1 (.castable xIOB xIOB) (by decide +kernel) rfl)) hce hcv hcl ?_
      refine W.eq (g2 := F0 mZ 13 ls [.ref q]) rfl ?_
      refine lv_astore (lv' := [(4, .ref q), (0, .ref (A 0)), (1, .int i), (2, .int w), (3, .ref o)]) hx hb dL_ofObstacle_13 hl (by decide) rfl (fun ls hl => ?_)
      refine lv_iconst (v := 1) hx hb dL_ofObstacle_15 (by decide) ?_
      exact wl_iretx S hr hlk hk ((congrArg (ecd _) hk).trans eBA_B) hext hA0 hR (rp_lt hR) ho dL_ofObstacle_16
    · refine vx_catch (own := RL) (name := xIAE) hown [(⟨0, 10, 13, 21⟩ : ExceptionTableEntry)] (⟨0, 10, 17, 13⟩ : ExceptionTableEntry) [] (by rw [hxt]; rfl) (List.forall_mem_cons.mpr ⟨Or.inr ⟨by decide, xIOB, hts (.classLink RL 21 xIOB) (by decide +kernel), hN.1⟩, fun _ h => nomatch h⟩) (by decide) (by decide) (hts (.classLink RL 13 xIAE) (by decide +kernel)) (va_Nw.use rfl (hG2.1.2.1 (.castable xIAE xIAE) (by decide +kernel) rfl)) hce hcv hcl ?_
      refine W.eq (g2 := F0 mZ 17 ls [.ref q]) rfl ?_
      refine lv_astore (lv' := [(4, .ref q), (0, .ref (A 0)), (1, .int i), (2, .int w), (3, .ref o)]) hx hb dL_ofObstacle_17 hl (by decide) rfl (fun ls hl => ?_)
      refine lv_iconst (v := 2) hx hb dL_ofObstacle_19 (by decide) ?_
      exact wl_iretx S hr hlk hk ((congrArg (ecd _) hk).trans eBA_A) hext hA0 hR (rp_lt hR) ho dL_ofObstacle_20

theorem nmL_demanded : nmV yL_demanded RL 5 := by decide +kernel
set_option maxHeartbeats 1000000 in
set_option maxRecDepth 100000 in
theorem c_L_demanded (l : Launch) (G : GT) (hlf : l.stackTraces = false) (A : Nat → Nat) (f : Nat → Nat → Int32) (g : Nat → Nat) (H : Heap) (hR : RP G A f g H) (hA : RA G A) (o : Nat) (r : Nat → Int64) (ho : va_at G.1 vwCl (o, oL G r) H) (hoA : ∀ k, rD k → o ≠ A k) (i d ca : Int32) : WLV l G A o H yL_demanded wsL_demanded { frames := 9, cells := 1, slots := 6, locals := 147 } [.ref (A 0), .int i, .int d, .int ca, .ref o] [xIOB, xIAE] (kOr (koIx i (g 3)) (kOr (koArg d 0 399) (koArg ca 0 3))) (lH f g i d (-1) + 10 * ca) f g (f) (g) := by
  refine wl_of (cc := cL_demanded) (maxL := 6) (ret := some .int) (hh := [(0, 12, 15, 21), (0, 12, 19, 13)]) (by decide) rfl (Nat.le_of_ble_eq_true rfl) ?_
  intro pZ eZ sZ mZ bZ meZ cZ ls S hr hlk hxt hl hHs hG hN
  have S : CallFix pZ mZ cZ cL_demanded 6 sZ _ wsL_demanded RL := S
  have hx := S.1
  have hb := S.2.1
  have hown := S.2.2.2.1
  have hts := S.2.2.2.2
  have hl : lv_has ls 6 [(0, .ref (A 0)), (1, .int i), (2, .int d), (3, .int ca), (4, .ref o)] := hl
  refine lv_aload hx hb dL_demanded_0 (lv_at hl 4 rfl) ?_
  refine lv_iconst (v := 0) hx hb dL_demanded_2 (by decide) ?_
  refine lv_aload_n hx hb dL_demanded_3 rfl (lv_at hl 0 rfl) ?_
  refine lv_iload_n hx hb dL_demanded_4 rfl (lv_at hl 1 rfl) ?_
  refine lv_iload_n hx hb dL_demanded_5 rfl (lv_at hl 2 rfl) ?_
  refine lv_iload_n hx hb dL_demanded_6 rfl (lv_at hl 3 rfl) ?_
  refine wl_V (As := [.int i, .int d, .int ca]) (rest := [.int 0, .ref o]) S hG hA (wx_of_rx (c_X7_demanded l G hlf A f g H hR i d ca) hR) gL_demanded_X7_demanded rfl ⟨rfl, rfl⟩ nmX7_demanded ⟨Nat.le_of_ble_eq_true rfl, Nat.le_of_ble_eq_true rfl⟩ (rd_rcv hG.1 (rP_0 hR) rfl) rfl hl.1 rfl (Nat.le_of_ble_eq_true rfl) ⟨Nat.le_of_ble_eq_true rfl, Nat.le_of_ble_eq_true rfl⟩ dL_demanded_7 (fun hk H2 locs2 hR2 hch hA0 hG2 => ?_) (fun E H2 locs2 q ce hk hext hA0 hG2 hce hcv hcl => ?_)
  · refine W.eq (g2 := F0 mZ 10 ls [.int (lH f g i d (-1) + 10 * ca), .int 0, .ref o]) rfl ?_
    refine lv_i2l (v := (lH f g i d (-1) + 10 * ca : Int32).toInt64) hx hb dL_demanded_10 rfl ?_
    refine wl_last S hG2.1 (va_at.kept ho (hch.2 _ (va_at.lt ho) (fun k hk9 => hoA k hk9))) dL_demanded_11 (fun H3 z hz hn3 hzs hq => ?_)
    refine lv_goto (tgt := 23) hx hb dL_demanded_12 (by decide) ?_
    refine lv_iconst (v := 0) hx hb dL_demanded_23 (by decide) ?_
    exact wl_iret S hr hlk hk hch hA0 hR2 hoA hz (r := vp_updL r 0 _) pk_uLs hn3 hzs hq dL_demanded_24
  · have hE := (show KO [xIOB, xIAE] _ from (KO_or (KO_Ix (by decide +kernel)) (KO_or (KO_Arg (by decide +kernel)) (KO_Arg (by decide +kernel))))) E hk
    simp only [List.mem_cons, List.not_mem_nil, or_false] at hE
    rcases hE with rfl | rfl
    · refine vx_catch (own := RL) (name := xIOB) hown [] (⟨0, 12, 15, 21⟩ : ExceptionTableEntry) [(⟨0, 12, 19, 13⟩ : ExceptionTableEntry)] (by rw [hxt]; rfl) (fun _ h => nomatch h) (by decide) (by decide) (hts (.classLink RL 21 xIOB) (by decide +kernel)) (va_Nw.use rfl (hG2.1.2.1 (.castable xIOB xIOB) (by decide +kernel) rfl)) hce hcv hcl ?_
      refine W.eq (g2 := F0 mZ 15 ls [.ref q]) rfl ?_
      refine lv_astore (lv' := [(5, .ref q), (0, .ref (A 0)), (1, .int i), (2, .int d), (3, .int ca), (4, .ref o)]) hx hb dL_demanded_15 hl (by decide) rfl (fun ls hl => ?_)
      refine lv_iconst (v := 1) hx hb dL_demanded_17 (by decide) ?_
      exact wl_iretx S hr hlk hk ((congrArg (ecd _) hk).trans eBA_B) hext hA0 hR (rp_lt hR) ho dL_demanded_18
    · refine vx_catch (own := RL) (name := xIAE) hown [(⟨0, 12, 15, 21⟩ : ExceptionTableEntry)] (⟨0, 12, 19, 13⟩ : ExceptionTableEntry) [] (by rw [hxt]; rfl) (List.forall_mem_cons.mpr ⟨Or.inr ⟨by decide, xIOB, hts (.classLink RL 21 xIOB) (by decide +kernel), hN.1⟩, fun _ h => nomatch h⟩) (by decide) (by decide) (hts (.classLink RL 13 xIAE) (by decide +kernel)) (va_Nw.use rfl (hG2.1.2.1 (.castable xIAE xIAE) (by decide +kernel) rfl)) hce hcv hcl ?_
      refine W.eq (g2 := F0 mZ 19 ls [.ref q]) rfl ?_
      refine lv_astore (lv' := [(5, .ref q), (0, .ref (A 0)), (1, .int i), (2, .int d), (3, .int ca), (4, .ref o)]) hx hb dL_demanded_19 hl (by decide) rfl (fun ls hl => ?_)
      refine lv_iconst (v := 2) hx hb dL_demanded_21 (by decide) ?_
      exact wl_iretx S hr hlk hk ((congrArg (ecd _) hk).trans eBA_A) hext hA0 hR (rp_lt hR) ho dL_demanded_22

theorem nmL_decides : nmV yL_decides RL 4 := by decide +kernel
set_option maxHeartbeats 1000000 in
set_option maxRecDepth 100000 in
theorem c_L_decides (l : Launch) (G : GT) (hlf : l.stackTraces = false) (A : Nat → Nat) (f : Nat → Nat → Int32) (g : Nat → Nat) (H : Heap) (hR : RP G A f g H) (hA : RA G A) (o : Nat) (r : Nat → Int64) (ho : va_at G.1 vwCl (o, oL G r) H) (hoA : ∀ k, rD k → o ≠ A k) (i d : Int32) : WLV l G A o H yL_decides wsL_decides { frames := 9, cells := 1, slots := 6, locals := 150 } [.ref (A 0), .int i, .int d, .ref o] [xIOB, xIAE] (kOr (koIx i (g 3)) (koArg d 0 399)) (dcd f g i d) f g (f) (g) := by
  refine wl_of (cc := cL_decides) (maxL := 5) (ret := some .int) (hh := [(0, 10, 13, 21), (0, 10, 17, 13)]) (by decide) rfl (Nat.le_of_ble_eq_true rfl) ?_
  intro pZ eZ sZ mZ bZ meZ cZ ls S hr hlk hxt hl hHs hG hN
  have S : CallFix pZ mZ cZ cL_decides 5 sZ _ wsL_decides RL := S
  have hx := S.1
  have hb := S.2.1
  have hown := S.2.2.2.1
  have hts := S.2.2.2.2
  have hl : lv_has ls 5 [(0, .ref (A 0)), (1, .int i), (2, .int d), (3, .ref o)] := hl
  refine lv_aload_n hx hb dL_decides_0 rfl (lv_at hl 3 rfl) ?_
  refine lv_iconst (v := 0) hx hb dL_decides_1 (by decide) ?_
  refine lv_aload_n hx hb dL_decides_2 rfl (lv_at hl 0 rfl) ?_
  refine lv_iload_n hx hb dL_decides_3 rfl (lv_at hl 1 rfl) ?_
  refine lv_iload_n hx hb dL_decides_4 rfl (lv_at hl 2 rfl) ?_
  refine wl_V (As := [.int i, .int d]) (rest := [.int 0, .ref o]) S hG hA (wx_of_rx (c_X7_decides l G hlf A f g H hR i d) hR) gL_decides_X7_decides rfl ⟨rfl, rfl⟩ nmX7_decides ⟨Nat.le_of_ble_eq_true rfl, Nat.le_of_ble_eq_true rfl⟩ (rd_rcv hG.1 (rP_0 hR) rfl) rfl hl.1 rfl (Nat.le_of_ble_eq_true rfl) ⟨Nat.le_of_ble_eq_true rfl, Nat.le_of_ble_eq_true rfl⟩ dL_decides_5 (fun hk H2 locs2 hR2 hch hA0 hG2 => ?_) (fun E H2 locs2 q ce hk hext hA0 hG2 hce hcv hcl => ?_)
  · refine W.eq (g2 := F0 mZ 8 ls [.int (dcd f g i d), .int 0, .ref o]) rfl ?_
    refine lv_i2l (v := (dcd f g i d : Int32).toInt64) hx hb dL_decides_8 rfl ?_
    refine wl_last S hG2.1 (va_at.kept ho (hch.2 _ (va_at.lt ho) (fun k hk9 => hoA k hk9))) dL_decides_9 (fun H3 z hz hn3 hzs hq => ?_)
    refine lv_goto (tgt := 21) hx hb dL_decides_10 (by decide) ?_
    refine lv_iconst (v := 0) hx hb dL_decides_21 (by decide) ?_
    exact wl_iret S hr hlk hk hch hA0 hR2 hoA hz (r := vp_updL r 0 _) pk_uLs hn3 hzs hq dL_decides_22
  · have hE := (show KO [xIOB, xIAE] _ from (KO_or (KO_Ix (by decide +kernel)) (KO_Arg (by decide +kernel)))) E hk
    simp only [List.mem_cons, List.not_mem_nil, or_false] at hE
    rcases hE with rfl | rfl
    · refine vx_catch (own := RL) (name := xIOB) hown [] (⟨0, 10, 13, 21⟩ : ExceptionTableEntry) [(⟨0, 10, 17, 13⟩ : ExceptionTableEntry)] (by rw [hxt]; rfl) (fun _ h => nomatch h) (by decide) (by decide) (hts (.classLink RL 21 xIOB) (by decide +kernel)) (va_Nw.use rfl (hG2.1.2.1 (.castable xIOB xIOB) (by decide +kernel) rfl)) hce hcv hcl ?_
      refine W.eq (g2 := F0 mZ 13 ls [.ref q]) rfl ?_
      refine lv_astore (lv' := [(4, .ref q), (0, .ref (A 0)), (1, .int i), (2, .int d), (3, .ref o)]) hx hb dL_decides_13 hl (by decide) rfl (fun ls hl => ?_)
      refine lv_iconst (v := 1) hx hb dL_decides_15 (by decide) ?_
      exact wl_iretx S hr hlk hk ((congrArg (ecd _) hk).trans eBA_B) hext hA0 hR (rp_lt hR) ho dL_decides_16
    · refine vx_catch (own := RL) (name := xIAE) hown [(⟨0, 10, 13, 21⟩ : ExceptionTableEntry)] (⟨0, 10, 17, 13⟩ : ExceptionTableEntry) [] (by rw [hxt]; rfl) (List.forall_mem_cons.mpr ⟨Or.inr ⟨by decide, xIOB, hts (.classLink RL 21 xIOB) (by decide +kernel), hN.1⟩, fun _ h => nomatch h⟩) (by decide) (by decide) (hts (.classLink RL 13 xIAE) (by decide +kernel)) (va_Nw.use rfl (hG2.1.2.1 (.castable xIAE xIAE) (by decide +kernel) rfl)) hce hcv hcl ?_
      refine W.eq (g2 := F0 mZ 17 ls [.ref q]) rfl ?_
      refine lv_astore (lv' := [(4, .ref q), (0, .ref (A 0)), (1, .int i), (2, .int d), (3, .ref o)]) hx hb dL_decides_17 hl (by decide) rfl (fun ls hl => ?_)
      refine lv_iconst (v := 2) hx hb dL_decides_19 (by decide) ?_
      exact wl_iretx S hr hlk hk ((congrArg (ecd _) hk).trans eBA_A) hext hA0 hR (rp_lt hR) ho dL_decides_20

theorem nmL_chart : nmV yL_chart RL 4 := by decide +kernel
set_option maxHeartbeats 1000000 in
set_option maxRecDepth 100000 in
theorem c_L_chart (l : Launch) (G : GT) (hlf : l.stackTraces = false) (A : Nat → Nat) (f : Nat → Nat → Int32) (g : Nat → Nat) (H : Heap) (hR : RP G A f g H) (hA : RA G A) (o : Nat) (r : Nat → Int64) (ho : va_at G.1 vwCl (o, oL G r) H) (hoA : ∀ k, rD k → o ≠ A k) (i d : Int32) : WLV l G A o H yL_chart wsL_chart { frames := 9, cells := 1, slots := 6, locals := 146 } [.ref (A 0), .int i, .int d, .ref o] [xIOB, xIAE] (kOr (koIx i (g 3)) (koArg d 0 399)) (hOn f i d (g 4)) f g (f) (g) := by
  refine wl_of (cc := cL_chart) (maxL := 5) (ret := some .int) (hh := [(0, 10, 13, 21), (0, 10, 17, 13)]) (by decide) rfl (Nat.le_of_ble_eq_true rfl) ?_
  intro pZ eZ sZ mZ bZ meZ cZ ls S hr hlk hxt hl hHs hG hN
  have S : CallFix pZ mZ cZ cL_chart 5 sZ _ wsL_chart RL := S
  have hx := S.1
  have hb := S.2.1
  have hown := S.2.2.2.1
  have hts := S.2.2.2.2
  have hl : lv_has ls 5 [(0, .ref (A 0)), (1, .int i), (2, .int d), (3, .ref o)] := hl
  refine lv_aload_n hx hb dL_chart_0 rfl (lv_at hl 3 rfl) ?_
  refine lv_iconst (v := 0) hx hb dL_chart_1 (by decide) ?_
  refine lv_aload_n hx hb dL_chart_2 rfl (lv_at hl 0 rfl) ?_
  refine lv_iload_n hx hb dL_chart_3 rfl (lv_at hl 1 rfl) ?_
  refine lv_iload_n hx hb dL_chart_4 rfl (lv_at hl 2 rfl) ?_
  refine wl_V (As := [.int i, .int d]) (rest := [.int 0, .ref o]) S hG hA (wx_of_rx (c_X7_chart l G hlf A f g H hR i d) hR) gL_chart_X7_chart rfl ⟨rfl, rfl⟩ nmX7_chart ⟨Nat.le_of_ble_eq_true rfl, Nat.le_of_ble_eq_true rfl⟩ (rd_rcv hG.1 (rP_0 hR) rfl) rfl hl.1 rfl (Nat.le_of_ble_eq_true rfl) ⟨Nat.le_of_ble_eq_true rfl, Nat.le_of_ble_eq_true rfl⟩ dL_chart_5 (fun hk H2 locs2 hR2 hch hA0 hG2 => ?_) (fun E H2 locs2 q ce hk hext hA0 hG2 hce hcv hcl => ?_)
  · refine W.eq (g2 := F0 mZ 8 ls [.int (hOn f i d (g 4)), .int 0, .ref o]) rfl ?_
    refine lv_i2l (v := (hOn f i d (g 4) : Int32).toInt64) hx hb dL_chart_8 rfl ?_
    refine wl_last S hG2.1 (va_at.kept ho (hch.2 _ (va_at.lt ho) (fun k hk9 => hoA k hk9))) dL_chart_9 (fun H3 z hz hn3 hzs hq => ?_)
    refine lv_goto (tgt := 21) hx hb dL_chart_10 (by decide) ?_
    refine lv_iconst (v := 0) hx hb dL_chart_21 (by decide) ?_
    exact wl_iret S hr hlk hk hch hA0 hR2 hoA hz (r := vp_updL r 0 _) pk_uLs hn3 hzs hq dL_chart_22
  · have hE := (show KO [xIOB, xIAE] _ from (KO_or (KO_Ix (by decide +kernel)) (KO_Arg (by decide +kernel)))) E hk
    simp only [List.mem_cons, List.not_mem_nil, or_false] at hE
    rcases hE with rfl | rfl
    · refine vx_catch (own := RL) (name := xIOB) hown [] (⟨0, 10, 13, 21⟩ : ExceptionTableEntry) [(⟨0, 10, 17, 13⟩ : ExceptionTableEntry)] (by rw [hxt]; rfl) (fun _ h => nomatch h) (by decide) (by decide) (hts (.classLink RL 21 xIOB) (by decide +kernel)) (va_Nw.use rfl (hG2.1.2.1 (.castable xIOB xIOB) (by decide +kernel) rfl)) hce hcv hcl ?_
      refine W.eq (g2 := F0 mZ 13 ls [.ref q]) rfl ?_
      refine lv_astore (lv' := [(4, .ref q), (0, .ref (A 0)), (1, .int i), (2, .int d), (3, .ref o)]) hx hb dL_chart_13 hl (by decide) rfl (fun ls hl => ?_)
      refine lv_iconst (v := 1) hx hb dL_chart_15 (by decide) ?_
      exact wl_iretx S hr hlk hk ((congrArg (ecd _) hk).trans eBA_B) hext hA0 hR (rp_lt hR) ho dL_chart_16
    · refine vx_catch (own := RL) (name := xIAE) hown [(⟨0, 10, 13, 21⟩ : ExceptionTableEntry)] (⟨0, 10, 17, 13⟩ : ExceptionTableEntry) [] (by rw [hxt]; rfl) (List.forall_mem_cons.mpr ⟨Or.inr ⟨by decide, xIOB, hts (.classLink RL 21 xIOB) (by decide +kernel), hN.1⟩, fun _ h => nomatch h⟩) (by decide) (by decide) (hts (.classLink RL 13 xIAE) (by decide +kernel)) (va_Nw.use rfl (hG2.1.2.1 (.castable xIAE xIAE) (by decide +kernel) rfl)) hce hcv hcl ?_
      refine W.eq (g2 := F0 mZ 17 ls [.ref q]) rfl ?_
      refine lv_astore (lv' := [(4, .ref q), (0, .ref (A 0)), (1, .int i), (2, .int d), (3, .ref o)]) hx hb dL_chart_17 hl (by decide) rfl (fun ls hl => ?_)
      refine lv_iconst (v := 2) hx hb dL_chart_19 (by decide) ?_
      exact wl_iretx S hr hlk hk ((congrArg (ecd _) hk).trans eBA_A) hext hA0 hR (rp_lt hR) ho dL_chart_20

theorem nmL_inForce : nmV yL_inForce RL 5 := by decide +kernel
set_option maxHeartbeats 1000000 in
set_option maxRecDepth 100000 in
theorem c_L_inForce (l : Launch) (G : GT) (hlf : l.stackTraces = false) (A : Nat → Nat) (f : Nat → Nat → Int32) (g : Nat → Nat) (H : Heap) (hR : RP G A f g H) (hA : RA G A) (o : Nat) (r : Nat → Int64) (ho : va_at G.1 vwCl (o, oL G r) H) (hoA : ∀ k, rD k → o ≠ A k) (i d ca : Int32) : WLV l G A o H yL_inForce wsL_inForce { frames := 9, cells := 1, slots := 6, locals := 147 } [.ref (A 0), .int i, .int d, .int ca, .ref o] [xIOB, xIAE] (kOr (koIx i (g 3)) (kOr (koArg d 0 399) (koArg ca 0 3))) (fCat (hIF f g i d) ca) f g (f) (g) := by
  refine wl_of (cc := cL_inForce) (maxL := 6) (ret := some .int) (hh := [(0, 12, 15, 21), (0, 12, 19, 13)]) (by decide) rfl (Nat.le_of_ble_eq_true rfl) ?_
  intro pZ eZ sZ mZ bZ meZ cZ ls S hr hlk hxt hl hHs hG hN
  have S : CallFix pZ mZ cZ cL_inForce 6 sZ _ wsL_inForce RL := S
  have hx := S.1
  have hb := S.2.1
  have hown := S.2.2.2.1
  have hts := S.2.2.2.2
  have hl : lv_has ls 6 [(0, .ref (A 0)), (1, .int i), (2, .int d), (3, .int ca), (4, .ref o)] := hl
  refine lv_aload hx hb dL_inForce_0 (lv_at hl 4 rfl) ?_
  refine lv_iconst (v := 0) hx hb dL_inForce_2 (by decide) ?_
  refine lv_aload_n hx hb dL_inForce_3 rfl (lv_at hl 0 rfl) ?_
  refine lv_iload_n hx hb dL_inForce_4 rfl (lv_at hl 1 rfl) ?_
  refine lv_iload_n hx hb dL_inForce_5 rfl (lv_at hl 2 rfl) ?_
  refine lv_iload_n hx hb dL_inForce_6 rfl (lv_at hl 3 rfl) ?_
  refine wl_V (As := [.int i, .int d, .int ca]) (rest := [.int 0, .ref o]) S hG hA (wx_of_rx (c_X7_inForce l G hlf A f g H hR i d ca) hR) gL_inForce_X7_inForce rfl ⟨rfl, rfl⟩ nmX7_inForce ⟨Nat.le_of_ble_eq_true rfl, Nat.le_of_ble_eq_true rfl⟩ (rd_rcv hG.1 (rP_0 hR) rfl) rfl hl.1 rfl (Nat.le_of_ble_eq_true rfl) ⟨Nat.le_of_ble_eq_true rfl, Nat.le_of_ble_eq_true rfl⟩ dL_inForce_7 (fun hk H2 locs2 hR2 hch hA0 hG2 => ?_) (fun E H2 locs2 q ce hk hext hA0 hG2 hce hcv hcl => ?_)
  · refine W.eq (g2 := F0 mZ 10 ls [.int (fCat (hIF f g i d) ca), .int 0, .ref o]) rfl ?_
    refine lv_i2l (v := (fCat (hIF f g i d) ca : Int32).toInt64) hx hb dL_inForce_10 rfl ?_
    refine wl_last S hG2.1 (va_at.kept ho (hch.2 _ (va_at.lt ho) (fun k hk9 => hoA k hk9))) dL_inForce_11 (fun H3 z hz hn3 hzs hq => ?_)
    refine lv_goto (tgt := 23) hx hb dL_inForce_12 (by decide) ?_
    refine lv_iconst (v := 0) hx hb dL_inForce_23 (by decide) ?_
    exact wl_iret S hr hlk hk hch hA0 hR2 hoA hz (r := vp_updL r 0 _) pk_uLs hn3 hzs hq dL_inForce_24
  · have hE := (show KO [xIOB, xIAE] _ from (KO_or (KO_Ix (by decide +kernel)) (KO_or (KO_Arg (by decide +kernel)) (KO_Arg (by decide +kernel))))) E hk
    simp only [List.mem_cons, List.not_mem_nil, or_false] at hE
    rcases hE with rfl | rfl
    · refine vx_catch (own := RL) (name := xIOB) hown [] (⟨0, 12, 15, 21⟩ : ExceptionTableEntry) [(⟨0, 12, 19, 13⟩ : ExceptionTableEntry)] (by rw [hxt]; rfl) (fun _ h => nomatch h) (by decide) (by decide) (hts (.classLink RL 21 xIOB) (by decide +kernel)) (va_Nw.use rfl (hG2.1.2.1 (.castable xIOB xIOB) (by decide +kernel) rfl)) hce hcv hcl ?_
      refine W.eq (g2 := F0 mZ 15 ls [.ref q]) rfl ?_
      refine lv_astore (lv' := [(5, .ref q), (0, .ref (A 0)), (1, .int i), (2, .int d), (3, .int ca), (4, .ref o)]) hx hb dL_inForce_15 hl (by decide) rfl (fun ls hl => ?_)
      refine lv_iconst (v := 1) hx hb dL_inForce_17 (by decide) ?_
      exact wl_iretx S hr hlk hk ((congrArg (ecd _) hk).trans eBA_B) hext hA0 hR (rp_lt hR) ho dL_inForce_18
    · refine vx_catch (own := RL) (name := xIAE) hown [(⟨0, 12, 15, 21⟩ : ExceptionTableEntry)] (⟨0, 12, 19, 13⟩ : ExceptionTableEntry) [] (by rw [hxt]; rfl) (List.forall_mem_cons.mpr ⟨Or.inr ⟨by decide, xIOB, hts (.classLink RL 21 xIOB) (by decide +kernel), hN.1⟩, fun _ h => nomatch h⟩) (by decide) (by decide) (hts (.classLink RL 13 xIAE) (by decide +kernel)) (va_Nw.use rfl (hG2.1.2.1 (.castable xIAE xIAE) (by decide +kernel) rfl)) hce hcv hcl ?_
      refine W.eq (g2 := F0 mZ 19 ls [.ref q]) rfl ?_
      refine lv_astore (lv' := [(5, .ref q), (0, .ref (A 0)), (1, .int i), (2, .int d), (3, .int ca), (4, .ref o)]) hx hb dL_inForce_19 hl (by decide) rfl (fun ls hl => ?_)
      refine lv_iconst (v := 2) hx hb dL_inForce_21 (by decide) ?_
      exact wl_iretx S hr hlk hk ((congrArg (ecd _) hk).trans eBA_A) hext hA0 hR (rp_lt hR) ho dL_inForce_22

theorem nmL_ofNotice : nmV yL_ofNotice RL 4 := by decide +kernel
set_option maxHeartbeats 1000000 in
set_option maxRecDepth 100000 in
theorem c_L_ofNotice (l : Launch) (G : GT) (hlf : l.stackTraces = false) (A : Nat → Nat) (f : Nat → Nat → Int32) (g : Nat → Nat) (H : Heap) (hR : RP G A f g H) (hA : RA G A) (o : Nat) (r : Nat → Int64) (ho : va_at G.1 vwCl (o, oL G r) H) (hoA : ∀ k, rD k → o ≠ A k) (i w : Int32) : WLV l G A o H yL_ofNotice wsL_ofNotice { frames := 8, cells := 1, slots := 6, locals := 126 } [.ref (A 0), .int i, .int w, .ref o] [xIOB, xIAE] (kOr (koIx i (g 5)) (koArg w 0 5)) (ofNo f g i w) f g (f) (g) := by
  refine wl_of (cc := cL_ofNotice) (maxL := 5) (ret := some .int) (hh := [(0, 10, 13, 21), (0, 10, 17, 13)]) (by decide) rfl (Nat.le_of_ble_eq_true rfl) ?_
  intro pZ eZ sZ mZ bZ meZ cZ ls S hr hlk hxt hl hHs hG hN
  have S : CallFix pZ mZ cZ cL_ofNotice 5 sZ _ wsL_ofNotice RL := S
  have hx := S.1
  have hb := S.2.1
  have hown := S.2.2.2.1
  have hts := S.2.2.2.2
  have hl : lv_has ls 5 [(0, .ref (A 0)), (1, .int i), (2, .int w), (3, .ref o)] := hl
  refine lv_aload_n hx hb dL_ofNotice_0 rfl (lv_at hl 3 rfl) ?_
  refine lv_iconst (v := 0) hx hb dL_ofNotice_1 (by decide) ?_
  refine lv_aload_n hx hb dL_ofNotice_2 rfl (lv_at hl 0 rfl) ?_
  refine lv_iload_n hx hb dL_ofNotice_3 rfl (lv_at hl 1 rfl) ?_
  refine lv_iload_n hx hb dL_ofNotice_4 rfl (lv_at hl 2 rfl) ?_
  refine wl_V (As := [.int i, .int w]) (rest := [.int 0, .ref o]) S hG hA (wx_of_rx (c_X7_ofNotice l G hlf A f g H hR i w) hR) gL_ofNotice_X7_ofNotice rfl ⟨rfl, rfl⟩ nmX7_ofNotice ⟨Nat.le_of_ble_eq_true rfl, Nat.le_of_ble_eq_true rfl⟩ (rd_rcv hG.1 (rP_0 hR) rfl) rfl hl.1 rfl (Nat.le_of_ble_eq_true rfl) ⟨Nat.le_of_ble_eq_true rfl, Nat.le_of_ble_eq_true rfl⟩ dL_ofNotice_5 (fun hk H2 locs2 hR2 hch hA0 hG2 => ?_) (fun E H2 locs2 q ce hk hext hA0 hG2 hce hcv hcl => ?_)
  · refine W.eq (g2 := F0 mZ 8 ls [.int (ofNo f g i w), .int 0, .ref o]) rfl ?_
    refine lv_i2l (v := (ofNo f g i w : Int32).toInt64) hx hb dL_ofNotice_8 rfl ?_
    refine wl_last S hG2.1 (va_at.kept ho (hch.2 _ (va_at.lt ho) (fun k hk9 => hoA k hk9))) dL_ofNotice_9 (fun H3 z hz hn3 hzs hq => ?_)
    refine lv_goto (tgt := 21) hx hb dL_ofNotice_10 (by decide) ?_
    refine lv_iconst (v := 0) hx hb dL_ofNotice_21 (by decide) ?_
    exact wl_iret S hr hlk hk hch hA0 hR2 hoA hz (r := vp_updL r 0 _) pk_uLs hn3 hzs hq dL_ofNotice_22
  · have hE := (show KO [xIOB, xIAE] _ from (KO_or (KO_Ix (by decide +kernel)) (KO_Arg (by decide +kernel)))) E hk
    simp only [List.mem_cons, List.not_mem_nil, or_false] at hE
    rcases hE with rfl | rfl
    · refine vx_catch (own := RL) (name := xIOB) hown [] (⟨0, 10, 13, 21⟩ : ExceptionTableEntry) [(⟨0, 10, 17, 13⟩ : ExceptionTableEntry)] (by rw [hxt]; rfl) (fun _ h => nomatch h) (by decide) (by decide) (hts (.classLink RL 21 xIOB) (by decide +kernel)) (va_Nw.use rfl (hG2.1.2.1 (.castable xIOB xIOB) (by decide +kernel) rfl)) hce hcv hcl ?_
      refine W.eq (g2 := F0 mZ 13 ls [.ref q]) rfl ?_
      refine lv_astore (lv' := [(4, .ref q), (0, .ref (A 0)), (1, .int i), (2, .int w), (3, .ref o)]) hx hb dL_ofNotice_13 hl (by decide) rfl (fun ls hl => ?_)
      refine lv_iconst (v := 1) hx hb dL_ofNotice_15 (by decide) ?_
      exact wl_iretx S hr hlk hk ((congrArg (ecd _) hk).trans eBA_B) hext hA0 hR (rp_lt hR) ho dL_ofNotice_16
    · refine vx_catch (own := RL) (name := xIAE) hown [(⟨0, 10, 13, 21⟩ : ExceptionTableEntry)] (⟨0, 10, 17, 13⟩ : ExceptionTableEntry) [] (by rw [hxt]; rfl) (List.forall_mem_cons.mpr ⟨Or.inr ⟨by decide, xIOB, hts (.classLink RL 21 xIOB) (by decide +kernel), hN.1⟩, fun _ h => nomatch h⟩) (by decide) (by decide) (hts (.classLink RL 13 xIAE) (by decide +kernel)) (va_Nw.use rfl (hG2.1.2.1 (.castable xIAE xIAE) (by decide +kernel) rfl)) hce hcv hcl ?_
      refine W.eq (g2 := F0 mZ 17 ls [.ref q]) rfl ?_
      refine lv_astore (lv' := [(4, .ref q), (0, .ref (A 0)), (1, .int i), (2, .int w), (3, .ref o)]) hx hb dL_ofNotice_17 hl (by decide) rfl (fun ls hl => ?_)
      refine lv_iconst (v := 2) hx hb dL_ofNotice_19 (by decide) ?_
      exact wl_iretx S hr hlk hk ((congrArg (ecd _) hk).trans eBA_A) hext hA0 hR (rp_lt hR) ho dL_ofNotice_20

theorem nmL_believes : nmV yL_believes RL 6 := by decide +kernel
set_option maxHeartbeats 1000000 in
set_option maxRecDepth 100000 in
theorem c_L_believes (l : Launch) (G : GT) (hlf : l.stackTraces = false) (A : Nat → Nat) (f : Nat → Nat → Int32) (g : Nat → Nat) (H : Heap) (hR : RP G A f g H) (hA : RA G A) (o : Nat) (r : Nat → Int64) (ho : va_at G.1 vwCl (o, oL G r) H) (hoA : ∀ k, rD k → o ≠ A k) (cr i d ca : Int32) : WLV l G A o H yL_believes wsL_believes { frames := 9, cells := 1, slots := 6, locals := 148 } [.ref (A 0), .int cr, .int i, .int d, .int ca, .ref o] [xIOB, xIAE] (kOr (koIx cr 4) (kOr (koIx i (g 3)) (kOr (koArg d (nI (g 0)) 399) (koArg ca 0 3)))) (fCat (hBl f g cr i d) ca) f g (f) (g) := by
  refine wl_of (cc := cL_believes) (maxL := 7) (ret := some .int) (hh := [(0, 14, 17, 21), (0, 14, 21, 13)]) (by decide) rfl (Nat.le_of_ble_eq_true rfl) ?_
  intro pZ eZ sZ mZ bZ meZ cZ ls S hr hlk hxt hl hHs hG hN
  have S : CallFix pZ mZ cZ cL_believes 7 sZ _ wsL_believes RL := S
  have hx := S.1
  have hb := S.2.1
  have hown := S.2.2.2.1
  have hts := S.2.2.2.2
  have hl : lv_has ls 7 [(0, .ref (A 0)), (1, .int cr), (2, .int i), (3, .int d), (4, .int ca), (5, .ref o)] := hl
  refine lv_aload hx hb dL_believes_0 (lv_at hl 5 rfl) ?_
  refine lv_iconst (v := 0) hx hb dL_believes_2 (by decide) ?_
  refine lv_aload_n hx hb dL_believes_3 rfl (lv_at hl 0 rfl) ?_
  refine lv_iload_n hx hb dL_believes_4 rfl (lv_at hl 1 rfl) ?_
  refine lv_iload_n hx hb dL_believes_5 rfl (lv_at hl 2 rfl) ?_
  refine lv_iload_n hx hb dL_believes_6 rfl (lv_at hl 3 rfl) ?_
  refine lv_iload hx hb dL_believes_7 (lv_at hl 4 rfl) ?_
  refine wl_V (As := [.int cr, .int i, .int d, .int ca]) (rest := [.int 0, .ref o]) S hG hA (wx_of_rx (c_X7_believes l G hlf A f g H hR cr i d ca) hR) gL_believes_X7_believes rfl ⟨rfl, rfl⟩ nmX7_believes ⟨Nat.le_of_ble_eq_true rfl, Nat.le_of_ble_eq_true rfl⟩ (rd_rcv hG.1 (rP_0 hR) rfl) rfl hl.1 rfl (Nat.le_of_ble_eq_true rfl) ⟨Nat.le_of_ble_eq_true rfl, Nat.le_of_ble_eq_true rfl⟩ dL_believes_9 (fun hk H2 locs2 hR2 hch hA0 hG2 => ?_) (fun E H2 locs2 q ce hk hext hA0 hG2 hce hcv hcl => ?_)
  · refine W.eq (g2 := F0 mZ 12 ls [.int (fCat (hBl f g cr i d) ca), .int 0, .ref o]) rfl ?_
    refine lv_i2l (v := (fCat (hBl f g cr i d) ca : Int32).toInt64) hx hb dL_believes_12 rfl ?_
    refine wl_last S hG2.1 (va_at.kept ho (hch.2 _ (va_at.lt ho) (fun k hk9 => hoA k hk9))) dL_believes_13 (fun H3 z hz hn3 hzs hq => ?_)
    refine lv_goto (tgt := 25) hx hb dL_believes_14 (by decide) ?_
    refine lv_iconst (v := 0) hx hb dL_believes_25 (by decide) ?_
    exact wl_iret S hr hlk hk hch hA0 hR2 hoA hz (r := vp_updL r 0 _) pk_uLs hn3 hzs hq dL_believes_26
  · have hE := (show KO [xIOB, xIAE] _ from (KO_or (KO_Ix (by decide +kernel)) (KO_or (KO_Ix (by decide +kernel)) (KO_or (KO_Arg (by decide +kernel)) (KO_Arg (by decide +kernel)))))) E hk
    simp only [List.mem_cons, List.not_mem_nil, or_false] at hE
    rcases hE with rfl | rfl
    · refine vx_catch (own := RL) (name := xIOB) hown [] (⟨0, 14, 17, 21⟩ : ExceptionTableEntry) [(⟨0, 14, 21, 13⟩ : ExceptionTableEntry)] (by rw [hxt]; rfl) (fun _ h => nomatch h) (by decide) (by decide) (hts (.classLink RL 21 xIOB) (by decide +kernel)) (va_Nw.use rfl (hG2.1.2.1 (.castable xIOB xIOB) (by decide +kernel) rfl)) hce hcv hcl ?_
      refine W.eq (g2 := F0 mZ 17 ls [.ref q]) rfl ?_
      refine lv_astore (lv' := [(6, .ref q), (0, .ref (A 0)), (1, .int cr), (2, .int i), (3, .int d), (4, .int ca), (5, .ref o)]) hx hb dL_believes_17 hl (by decide) rfl (fun ls hl => ?_)
      refine lv_iconst (v := 1) hx hb dL_believes_19 (by decide) ?_
      exact wl_iretx S hr hlk hk ((congrArg (ecd _) hk).trans eBA_B) hext hA0 hR (rp_lt hR) ho dL_believes_20
    · refine vx_catch (own := RL) (name := xIAE) hown [(⟨0, 14, 17, 21⟩ : ExceptionTableEntry)] (⟨0, 14, 21, 13⟩ : ExceptionTableEntry) [] (by rw [hxt]; rfl) (List.forall_mem_cons.mpr ⟨Or.inr ⟨by decide, xIOB, hts (.classLink RL 21 xIOB) (by decide +kernel), hN.1⟩, fun _ h => nomatch h⟩) (by decide) (by decide) (hts (.classLink RL 13 xIAE) (by decide +kernel)) (va_Nw.use rfl (hG2.1.2.1 (.castable xIAE xIAE) (by decide +kernel) rfl)) hce hcv hcl ?_
      refine W.eq (g2 := F0 mZ 21 ls [.ref q]) rfl ?_
      refine lv_astore (lv' := [(6, .ref q), (0, .ref (A 0)), (1, .int cr), (2, .int i), (3, .int d), (4, .int ca), (5, .ref o)]) hx hb dL_believes_21 hl (by decide) rfl (fun ls hl => ?_)
      refine lv_iconst (v := 2) hx hb dL_believes_23 (by decide) ?_
      exact wl_iretx S hr hlk hk ((congrArg (ecd _) hk).trans eBA_A) hext hA0 hR (rp_lt hR) ho dL_believes_24

theorem nmL_misled : nmV yL_misled RL 3 := by decide +kernel
set_option maxHeartbeats 1000000 in
set_option maxRecDepth 100000 in
theorem c_L_misled (l : Launch) (G : GT) (hlf : l.stackTraces = false) (A : Nat → Nat) (f : Nat → Nat → Int32) (g : Nat → Nat) (H : Heap) (hR : RP G A f g H) (hA : RA G A) (o : Nat) (r : Nat → Int64) (ho : va_at G.1 vwCl (o, oL G r) H) (hoA : ∀ k, rD k → o ≠ A k) (cr : Int32) : WLV l G A o H yL_misled wsL_misled { frames := 8, cells := 1, slots := 6, locals := 127 } [.ref (A 0), .int cr, .ref o] [xIOB] (koIx cr 4) (mis f g cr) f g (f) (g) := by
  refine wl_of (cc := cL_misled) (maxL := 4) (ret := some .int) (hh := [(0, 9, 12, 21)]) (by decide) rfl (Nat.le_of_ble_eq_true rfl) ?_
  intro pZ eZ sZ mZ bZ meZ cZ ls S hr hlk hxt hl hHs hG hN
  have S : CallFix pZ mZ cZ cL_misled 4 sZ _ wsL_misled RL := S
  have hx := S.1
  have hb := S.2.1
  have hown := S.2.2.2.1
  have hts := S.2.2.2.2
  have hl : lv_has ls 4 [(0, .ref (A 0)), (1, .int cr), (2, .ref o)] := hl
  refine lv_aload_n hx hb dL_misled_0 rfl (lv_at hl 2 rfl) ?_
  refine lv_iconst (v := 0) hx hb dL_misled_1 (by decide) ?_
  refine lv_aload_n hx hb dL_misled_2 rfl (lv_at hl 0 rfl) ?_
  refine lv_iload_n hx hb dL_misled_3 rfl (lv_at hl 1 rfl) ?_
  refine wl_V (As := [.int cr]) (rest := [.int 0, .ref o]) S hG hA (wx_of_rx (c_X7_misled l G hlf A f g H hR cr) hR) gL_misled_X7_misled rfl ⟨rfl, rfl⟩ nmX7_misled ⟨Nat.le_of_ble_eq_true rfl, Nat.le_of_ble_eq_true rfl⟩ (rd_rcv hG.1 (rP_0 hR) rfl) rfl hl.1 rfl (Nat.le_of_ble_eq_true rfl) ⟨Nat.le_of_ble_eq_true rfl, Nat.le_of_ble_eq_true rfl⟩ dL_misled_4 (fun hk H2 locs2 hR2 hch hA0 hG2 => ?_) (fun E H2 locs2 q ce hk hext hA0 hG2 hce hcv hcl => ?_)
  · refine W.eq (g2 := F0 mZ 7 ls [.int (mis f g cr), .int 0, .ref o]) rfl ?_
    refine lv_i2l (v := (mis f g cr : Int32).toInt64) hx hb dL_misled_7 rfl ?_
    refine wl_last S hG2.1 (va_at.kept ho (hch.2 _ (va_at.lt ho) (fun k hk9 => hoA k hk9))) dL_misled_8 (fun H3 z hz hn3 hzs hq => ?_)
    refine lv_goto (tgt := 15) hx hb dL_misled_9 (by decide) ?_
    refine lv_iconst (v := 0) hx hb dL_misled_15 (by decide) ?_
    exact wl_iret S hr hlk hk hch hA0 hR2 hoA hz (r := vp_updL r 0 _) pk_uLs hn3 hzs hq dL_misled_16
  · have hE := (show KO [xIOB] _ from (KO_Ix (by decide +kernel))) E hk
    rw [List.mem_singleton] at hE; subst hE
    refine vx_catch (own := RL) (name := xIOB) hown [] (⟨0, 9, 12, 21⟩ : ExceptionTableEntry) [] (by rw [hxt]; rfl) (fun _ h => nomatch h) (by decide) (by decide) (hts (.classLink RL 21 xIOB) (by decide +kernel)) (va_Nw.use rfl (hG2.1.2.1 (.castable xIOB xIOB) (by decide +kernel) rfl)) hce hcv hcl ?_
    refine W.eq (g2 := F0 mZ 12 ls [.ref q]) rfl ?_
    refine lv_astore_n (lv' := [(3, .ref q), (0, .ref (A 0)), (1, .int cr), (2, .ref o)]) hx hb dL_misled_12 rfl hl (by decide) rfl (fun ls hl => ?_)
    refine lv_iconst (v := 1) hx hb dL_misled_13 (by decide) ?_
    exact wl_iretx S hr hlk hk ((congrArg (ecd _) hk).trans eB_B) hext hA0 hR (rp_lt hR) ho dL_misled_14

theorem nmL_many : nmV yL_many RL 3 := by decide +kernel
set_option maxHeartbeats 1000000 in
set_option maxRecDepth 100000 in
theorem c_L_many (l : Launch) (G : GT) (hlf : l.stackTraces = false) (A : Nat → Nat) (f : Nat → Nat → Int32) (g : Nat → Nat) (H : Heap) (hR : RP G A f g H) (hA : RA G A) (o : Nat) (r : Nat → Int64) (ho : va_at G.1 vwCl (o, oL G r) H) (hoA : ∀ k, rD k → o ≠ A k) (w : Int32) : WLV l G A o H yL_many wsL_many { frames := 8, cells := 1, slots := 6, locals := 142 } [.ref (A 0), .int w, .ref o] [xIAE] (koArg w 0 19) (mny f g w) f g (f) (g) := by
  refine wl_of (cc := cL_many) (maxL := 4) (ret := some .int) (hh := [(0, 9, 12, 13)]) (by decide) rfl (Nat.le_of_ble_eq_true rfl) ?_
  intro pZ eZ sZ mZ bZ meZ cZ ls S hr hlk hxt hl hHs hG hN
  have S : CallFix pZ mZ cZ cL_many 4 sZ _ wsL_many RL := S
  have hx := S.1
  have hb := S.2.1
  have hown := S.2.2.2.1
  have hts := S.2.2.2.2
  have hl : lv_has ls 4 [(0, .ref (A 0)), (1, .int w), (2, .ref o)] := hl
  refine lv_aload_n hx hb dL_many_0 rfl (lv_at hl 2 rfl) ?_
  refine lv_iconst (v := 0) hx hb dL_many_1 (by decide) ?_
  refine lv_aload_n hx hb dL_many_2 rfl (lv_at hl 0 rfl) ?_
  refine lv_iload_n hx hb dL_many_3 rfl (lv_at hl 1 rfl) ?_
  refine wl_V (As := [.int w]) (rest := [.int 0, .ref o]) S hG hA (wx_of_rx (c_X7_many l G hlf A f g H hR w) hR) gL_many_X7_many rfl ⟨rfl, rfl⟩ nmX7_many ⟨Nat.le_of_ble_eq_true rfl, Nat.le_of_ble_eq_true rfl⟩ (rd_rcv hG.1 (rP_0 hR) rfl) rfl hl.1 rfl (Nat.le_of_ble_eq_true rfl) ⟨Nat.le_of_ble_eq_true rfl, Nat.le_of_ble_eq_true rfl⟩ dL_many_4 (fun hk H2 locs2 hR2 hch hA0 hG2 => ?_) (fun E H2 locs2 q ce hk hext hA0 hG2 hce hcv hcl => ?_)
  · refine W.eq (g2 := F0 mZ 7 ls [.int (mny f g w), .int 0, .ref o]) rfl ?_
    refine lv_i2l (v := (mny f g w : Int32).toInt64) hx hb dL_many_7 rfl ?_
    refine wl_last S hG2.1 (va_at.kept ho (hch.2 _ (va_at.lt ho) (fun k hk9 => hoA k hk9))) dL_many_8 (fun H3 z hz hn3 hzs hq => ?_)
    refine lv_goto (tgt := 15) hx hb dL_many_9 (by decide) ?_
    refine lv_iconst (v := 0) hx hb dL_many_15 (by decide) ?_
    exact wl_iret S hr hlk hk hch hA0 hR2 hoA hz (r := vp_updL r 0 _) pk_uLs hn3 hzs hq dL_many_16
  · have hE := (show KO [xIAE] _ from (KO_Arg (by decide +kernel))) E hk
    rw [List.mem_singleton] at hE; subst hE
    refine vx_catch (own := RL) (name := xIAE) hown [] (⟨0, 9, 12, 13⟩ : ExceptionTableEntry) [] (by rw [hxt]; rfl) (fun _ h => nomatch h) (by decide) (by decide) (hts (.classLink RL 13 xIAE) (by decide +kernel)) (va_Nw.use rfl (hG2.1.2.1 (.castable xIAE xIAE) (by decide +kernel) rfl)) hce hcv hcl ?_
    refine W.eq (g2 := F0 mZ 12 ls [.ref q]) rfl ?_
    refine lv_astore_n (lv' := [(3, .ref q), (0, .ref (A 0)), (1, .int w), (2, .ref o)]) hx hb dL_many_12 rfl hl (by decide) rfl (fun ls hl => ?_)
    refine lv_iconst (v := 1) hx hb dL_many_13 (by decide) ?_
    exact wl_iretx S hr hlk hk ((congrArg (ecd _) hk).trans eA_A) hext hA0 hR (rp_lt hR) ho dL_many_14

theorem nmL_permit : nmV yL_permit RL 7 := by decide +kernel
set_option maxHeartbeats 1000000 in
set_option maxRecDepth 100000 in
theorem c_L_permit (l : Launch) (G : GT) (hlf : l.stackTraces = false) (A : Nat → Nat) (f : Nat → Nat → Int32) (g : Nat → Nat) (H : Heap) (hR : RP G A f g H) (hA : RA G A) (o : Nat) (r : Nat → Int64) (ho : va_at G.1 vwCl (o, oL G r) H) (hoA : ∀ k, rD k → o ≠ A k) (x y t a b : Int32) : WLV l G A o H yL_permit wsL_permit { frames := 10, cells := 1, slots := 6, locals := 174 } [.ref (A 0), .int x, .int y, .int t, .int a, .int b, .ref o] [xIAE] (kOr (koPl x y a b) (koArg t 0 999)) (prm f g x y t a b) f g (f) (g) := by
  refine wl_of (cc := cL_permit) (maxL := 8) (ret := some .int) (hh := [(0, 16, 19, 13)]) (by decide) rfl (Nat.le_of_ble_eq_true rfl) ?_
  intro pZ eZ sZ mZ bZ meZ cZ ls S hr hlk hxt hl hHs hG hN
  have S : CallFix pZ mZ cZ cL_permit 8 sZ _ wsL_permit RL := S
  have hx := S.1
  have hb := S.2.1
  have hown := S.2.2.2.1
  have hts := S.2.2.2.2
  have hl : lv_has ls 8 [(0, .ref (A 0)), (1, .int x), (2, .int y), (3, .int t), (4, .int a), (5, .int b), (6, .ref o)] := hl
  refine lv_aload hx hb dL_permit_0 (lv_at hl 6 rfl) ?_
  refine lv_iconst (v := 0) hx hb dL_permit_2 (by decide) ?_
  refine lv_aload_n hx hb dL_permit_3 rfl (lv_at hl 0 rfl) ?_
  refine lv_iload_n hx hb dL_permit_4 rfl (lv_at hl 1 rfl) ?_
  refine lv_iload_n hx hb dL_permit_5 rfl (lv_at hl 2 rfl) ?_
  refine lv_iload_n hx hb dL_permit_6 rfl (lv_at hl 3 rfl) ?_
  refine lv_iload hx hb dL_permit_7 (lv_at hl 4 rfl) ?_
  refine lv_iload hx hb dL_permit_9 (lv_at hl 5 rfl) ?_
  refine wl_V (As := [.int x, .int y, .int t, .int a, .int b]) (rest := [.int 0, .ref o]) S hG hA (wx_of_rx (c_X7_permit l G hlf A f g H hR x y t a b) hR) gL_permit_X7_permit rfl ⟨rfl, rfl⟩ nmX7_permit ⟨Nat.le_of_ble_eq_true rfl, Nat.le_of_ble_eq_true rfl⟩ (rd_rcv hG.1 (rP_0 hR) rfl) rfl hl.1 rfl (Nat.le_of_ble_eq_true rfl) ⟨Nat.le_of_ble_eq_true rfl, Nat.le_of_ble_eq_true rfl⟩ dL_permit_11 (fun hk H2 locs2 hR2 hch hA0 hG2 => ?_) (fun E H2 locs2 q ce hk hext hA0 hG2 hce hcv hcl => ?_)
  · refine W.eq (g2 := F0 mZ 14 ls [.int (prm f g x y t a b), .int 0, .ref o]) rfl ?_
    refine lv_i2l (v := (prm f g x y t a b : Int32).toInt64) hx hb dL_permit_14 rfl ?_
    refine wl_last S hG2.1 (va_at.kept ho (hch.2 _ (va_at.lt ho) (fun k hk9 => hoA k hk9))) dL_permit_15 (fun H3 z hz hn3 hzs hq => ?_)
    refine lv_goto (tgt := 23) hx hb dL_permit_16 (by decide) ?_
    refine lv_iconst (v := 0) hx hb dL_permit_23 (by decide) ?_
    exact wl_iret S hr hlk hk hch hA0 hR2 hoA hz (r := vp_updL r 0 _) pk_uLs hn3 hzs hq dL_permit_24
  · have hE := (show KO [xIAE] _ from (KO_or (KO_Pl (by decide +kernel)) (KO_Arg (by decide +kernel)))) E hk
    rw [List.mem_singleton] at hE; subst hE
    refine vx_catch (own := RL) (name := xIAE) hown [] (⟨0, 16, 19, 13⟩ : ExceptionTableEntry) [] (by rw [hxt]; rfl) (fun _ h => nomatch h) (by decide) (by decide) (hts (.classLink RL 13 xIAE) (by decide +kernel)) (va_Nw.use rfl (hG2.1.2.1 (.castable xIAE xIAE) (by decide +kernel) rfl)) hce hcv hcl ?_
    refine W.eq (g2 := F0 mZ 19 ls [.ref q]) rfl ?_
    refine lv_astore (lv' := [(7, .ref q), (0, .ref (A 0)), (1, .int x), (2, .int y), (3, .int t), (4, .int a), (5, .int b), (6, .ref o)]) hx hb dL_permit_19 hl (by decide) rfl (fun ls hl => ?_)
    refine lv_iconst (v := 1) hx hb dL_permit_21 (by decide) ?_
    exact wl_iretx S hr hlk hk ((congrArg (ecd _) hk).trans eA_A) hext hA0 hR (rp_lt hR) ho dL_permit_22

theorem nmL_highest : nmV yL_highest RL 6 := by decide +kernel
set_option maxHeartbeats 1000000 in
set_option maxRecDepth 100000 in
theorem c_L_highest (l : Launch) (G : GT) (hlf : l.stackTraces = false) (A : Nat → Nat) (f : Nat → Nat → Int32) (g : Nat → Nat) (H : Heap) (hR : RP G A f g H) (hA : RA G A) (o : Nat) (r : Nat → Int64) (ho : va_at G.1 vwCl (o, oL G r) H) (hoA : ∀ k, rD k → o ≠ A k) (x y a b : Int32) : WLV l G A o H yL_highest wsL_highest { frames := 10, cells := 1, slots := 6, locals := 174 } [.ref (A 0), .int x, .int y, .int a, .int b, .ref o] [xIAE] (koPl x y a b) (nI (hiT f g x y a b)) f g (f) (g) := by
  refine wl_of (cc := cL_highest) (maxL := 7) (ret := some .int) (hh := [(0, 14, 17, 13)]) (by decide) rfl (Nat.le_of_ble_eq_true rfl) ?_
  intro pZ eZ sZ mZ bZ meZ cZ ls S hr hlk hxt hl hHs hG hN
  have S : CallFix pZ mZ cZ cL_highest 7 sZ _ wsL_highest RL := S
  have hx := S.1
  have hb := S.2.1
  have hown := S.2.2.2.1
  have hts := S.2.2.2.2
  have hl : lv_has ls 7 [(0, .ref (A 0)), (1, .int x), (2, .int y), (3, .int a), (4, .int b), (5, .ref o)] := hl
  refine lv_aload hx hb dL_highest_0 (lv_at hl 5 rfl) ?_
  refine lv_iconst (v := 0) hx hb dL_highest_2 (by decide) ?_
  refine lv_aload_n hx hb dL_highest_3 rfl (lv_at hl 0 rfl) ?_
  refine lv_iload_n hx hb dL_highest_4 rfl (lv_at hl 1 rfl) ?_
  refine lv_iload_n hx hb dL_highest_5 rfl (lv_at hl 2 rfl) ?_
  refine lv_iload_n hx hb dL_highest_6 rfl (lv_at hl 3 rfl) ?_
  refine lv_iload hx hb dL_highest_7 (lv_at hl 4 rfl) ?_
  refine wl_V (As := [.int x, .int y, .int a, .int b]) (rest := [.int 0, .ref o]) S hG hA (wx_of_rx (c_X7_highest l G hlf A f g H hR x y a b) hR) gL_highest_X7_highest rfl ⟨rfl, rfl⟩ nmX7_highest ⟨Nat.le_of_ble_eq_true rfl, Nat.le_of_ble_eq_true rfl⟩ (rd_rcv hG.1 (rP_0 hR) rfl) rfl hl.1 rfl (Nat.le_of_ble_eq_true rfl) ⟨Nat.le_of_ble_eq_true rfl, Nat.le_of_ble_eq_true rfl⟩ dL_highest_9 (fun hk H2 locs2 hR2 hch hA0 hG2 => ?_) (fun E H2 locs2 q ce hk hext hA0 hG2 hce hcv hcl => ?_)
  · refine W.eq (g2 := F0 mZ 12 ls [.int (nI (hiT f g x y a b)), .int 0, .ref o]) rfl ?_
    refine lv_i2l (v := (nI (hiT f g x y a b) : Int32).toInt64) hx hb dL_highest_12 rfl ?_
    refine wl_last S hG2.1 (va_at.kept ho (hch.2 _ (va_at.lt ho) (fun k hk9 => hoA k hk9))) dL_highest_13 (fun H3 z hz hn3 hzs hq => ?_)
    refine lv_goto (tgt := 21) hx hb dL_highest_14 (by decide) ?_
    refine lv_iconst (v := 0) hx hb dL_highest_21 (by decide) ?_
    exact wl_iret S hr hlk hk hch hA0 hR2 hoA hz (r := vp_updL r 0 _) pk_uLs hn3 hzs hq dL_highest_22
  · have hE := (show KO [xIAE] _ from (KO_Pl (by decide +kernel))) E hk
    rw [List.mem_singleton] at hE; subst hE
    refine vx_catch (own := RL) (name := xIAE) hown [] (⟨0, 14, 17, 13⟩ : ExceptionTableEntry) [] (by rw [hxt]; rfl) (fun _ h => nomatch h) (by decide) (by decide) (hts (.classLink RL 13 xIAE) (by decide +kernel)) (va_Nw.use rfl (hG2.1.2.1 (.castable xIAE xIAE) (by decide +kernel) rfl)) hce hcv hcl ?_
    refine W.eq (g2 := F0 mZ 17 ls [.ref q]) rfl ?_
    refine lv_astore (lv' := [(6, .ref q), (0, .ref (A 0)), (1, .int x), (2, .int y), (3, .int a), (4, .int b), (5, .ref o)]) hx hb dL_highest_17 hl (by decide) rfl (fun ls hl => ?_)
    refine lv_iconst (v := 1) hx hb dL_highest_19 (by decide) ?_
    exact wl_iretx S hr hlk hk ((congrArg (ecd _) hk).trans eA_A) hext hA0 hR (rp_lt hR) ho dL_highest_20

theorem nmL_unsafeOn : nmV yL_unsafeOn RL 3 := by decide +kernel
set_option maxHeartbeats 1000000 in
set_option maxRecDepth 100000 in
theorem c_L_unsafeOn (l : Launch) (G : GT) (hlf : l.stackTraces = false) (A : Nat → Nat) (f : Nat → Nat → Int32) (g : Nat → Nat) (H : Heap) (hR : RP G A f g H) (hA : RA G A) (o : Nat) (r : Nat → Int64) (ho : va_at G.1 vwCl (o, oL G r) H) (hoA : ∀ k, rD k → o ≠ A k) (i : Int32) (hg0 : g 0 ≤ 399) : WLV l G A o H yL_unsafeOn wsL_unsafeOn { frames := 8, cells := 1, slots := 6, locals := 126 } [.ref (A 0), .int i, .ref o] [xIOB] (koIx i (g 3)) (uOn f g i (400 - g 0) 0) f g (f) (g) := by
  refine wl_of (cc := cL_unsafeOn) (maxL := 4) (ret := some .int) (hh := [(0, 9, 12, 21)]) (by decide) rfl (Nat.le_of_ble_eq_true rfl) ?_
  intro pZ eZ sZ mZ bZ meZ cZ ls S hr hlk hxt hl hHs hG hN
  have S : CallFix pZ mZ cZ cL_unsafeOn 4 sZ _ wsL_unsafeOn RL := S
  have hx := S.1
  have hb := S.2.1
  have hown := S.2.2.2.1
  have hts := S.2.2.2.2
  have hl : lv_has ls 4 [(0, .ref (A 0)), (1, .int i), (2, .ref o)] := hl
  refine lv_aload_n hx hb dL_unsafeOn_0 rfl (lv_at hl 2 rfl) ?_
  refine lv_iconst (v := 0) hx hb dL_unsafeOn_1 (by decide) ?_
  refine lv_aload_n hx hb dL_unsafeOn_2 rfl (lv_at hl 0 rfl) ?_
  refine lv_iload_n hx hb dL_unsafeOn_3 rfl (lv_at hl 1 rfl) ?_
  refine wl_V (As := [.int i]) (rest := [.int 0, .ref o]) S hG hA (wx_of_rx (c_X7_unsafeOn l G hlf A f g H hR i hg0) hR) gL_unsafeOn_X7_unsafeOn rfl ⟨rfl, rfl⟩ nmX7_unsafeOn ⟨Nat.le_of_ble_eq_true rfl, Nat.le_of_ble_eq_true rfl⟩ (rd_rcv hG.1 (rP_0 hR) rfl) rfl hl.1 rfl (Nat.le_of_ble_eq_true rfl) ⟨Nat.le_of_ble_eq_true rfl, Nat.le_of_ble_eq_true rfl⟩ dL_unsafeOn_4 (fun hk H2 locs2 hR2 hch hA0 hG2 => ?_) (fun E H2 locs2 q ce hk hext hA0 hG2 hce hcv hcl => ?_)
  · refine W.eq (g2 := F0 mZ 7 ls [.int (uOn f g i (400 - g 0) 0), .int 0, .ref o]) rfl ?_
    refine lv_i2l (v := (uOn f g i (400 - g 0) 0 : Int32).toInt64) hx hb dL_unsafeOn_7 rfl ?_
    refine wl_last S hG2.1 (va_at.kept ho (hch.2 _ (va_at.lt ho) (fun k hk9 => hoA k hk9))) dL_unsafeOn_8 (fun H3 z hz hn3 hzs hq => ?_)
    refine lv_goto (tgt := 15) hx hb dL_unsafeOn_9 (by decide) ?_
    refine lv_iconst (v := 0) hx hb dL_unsafeOn_15 (by decide) ?_
    exact wl_iret S hr hlk hk hch hA0 hR2 hoA hz (r := vp_updL r 0 _) pk_uLs hn3 hzs hq dL_unsafeOn_16
  · have hE := (show KO [xIOB] _ from (KO_Ix (by decide +kernel))) E hk
    rw [List.mem_singleton] at hE; subst hE
    refine vx_catch (own := RL) (name := xIOB) hown [] (⟨0, 9, 12, 21⟩ : ExceptionTableEntry) [] (by rw [hxt]; rfl) (fun _ h => nomatch h) (by decide) (by decide) (hts (.classLink RL 21 xIOB) (by decide +kernel)) (va_Nw.use rfl (hG2.1.2.1 (.castable xIOB xIOB) (by decide +kernel) rfl)) hce hcv hcl ?_
    refine W.eq (g2 := F0 mZ 12 ls [.ref q]) rfl ?_
    refine lv_astore_n (lv' := [(3, .ref q), (0, .ref (A 0)), (1, .int i), (2, .ref o)]) hx hb dL_unsafeOn_12 rfl hl (by decide) rfl (fun ls hl => ?_)
    refine lv_iconst (v := 1) hx hb dL_unsafeOn_13 (by decide) ?_
    exact wl_iretx S hr hlk hk ((congrArg (ecd _) hk).trans eB_B) hext hA0 hR (rp_lt hR) ho dL_unsafeOn_14

theorem nmL_raiseFor : nmV yL_raiseFor RL 3 := by decide +kernel
set_option maxHeartbeats 1000000 in
set_option maxRecDepth 100000 in
theorem c_L_raiseFor (l : Launch) (G : GT) (hlf : l.stackTraces = false) (A : Nat → Nat) (f : Nat → Nat → Int32) (g : Nat → Nat) (H : Heap) (hR : RP G A f g H) (hA : RA G A) (o : Nat) (r : Nat → Int64) (ho : va_at G.1 vwCl (o, oL G r) H) (hoA : ∀ k, rD k → o ≠ A k) (i : Int32) (hg0 : g 0 ≤ 399) : WLV l G A o H yL_raiseFor wsL_raiseFor { frames := 8, cells := 1, slots := 6, locals := 128 } [.ref (A 0), .int i, .ref o] [xIOB] (koIx i (g 3)) (rFo f g i) f g (f) (g) := by
  refine wl_of (cc := cL_raiseFor) (maxL := 4) (ret := some .int) (hh := [(0, 9, 12, 21)]) (by decide) rfl (Nat.le_of_ble_eq_true rfl) ?_
  intro pZ eZ sZ mZ bZ meZ cZ ls S hr hlk hxt hl hHs hG hN
  have S : CallFix pZ mZ cZ cL_raiseFor 4 sZ _ wsL_raiseFor RL := S
  have hx := S.1
  have hb := S.2.1
  have hown := S.2.2.2.1
  have hts := S.2.2.2.2
  have hl : lv_has ls 4 [(0, .ref (A 0)), (1, .int i), (2, .ref o)] := hl
  refine lv_aload_n hx hb dL_raiseFor_0 rfl (lv_at hl 2 rfl) ?_
  refine lv_iconst (v := 0) hx hb dL_raiseFor_1 (by decide) ?_
  refine lv_aload_n hx hb dL_raiseFor_2 rfl (lv_at hl 0 rfl) ?_
  refine lv_iload_n hx hb dL_raiseFor_3 rfl (lv_at hl 1 rfl) ?_
  refine wl_V (As := [.int i]) (rest := [.int 0, .ref o]) S hG hA (wx_of_rx (c_X7_raiseFor l G hlf A f g H hR i hg0) hR) gL_raiseFor_X7_raiseFor rfl ⟨rfl, rfl⟩ nmX7_raiseFor ⟨Nat.le_of_ble_eq_true rfl, Nat.le_of_ble_eq_true rfl⟩ (rd_rcv hG.1 (rP_0 hR) rfl) rfl hl.1 rfl (Nat.le_of_ble_eq_true rfl) ⟨Nat.le_of_ble_eq_true rfl, Nat.le_of_ble_eq_true rfl⟩ dL_raiseFor_4 (fun hk H2 locs2 hR2 hch hA0 hG2 => ?_) (fun E H2 locs2 q ce hk hext hA0 hG2 hce hcv hcl => ?_)
  · refine W.eq (g2 := F0 mZ 7 ls [.int (rFo f g i), .int 0, .ref o]) rfl ?_
    refine lv_i2l (v := (rFo f g i : Int32).toInt64) hx hb dL_raiseFor_7 rfl ?_
    refine wl_last S hG2.1 (va_at.kept ho (hch.2 _ (va_at.lt ho) (fun k hk9 => hoA k hk9))) dL_raiseFor_8 (fun H3 z hz hn3 hzs hq => ?_)
    refine lv_goto (tgt := 15) hx hb dL_raiseFor_9 (by decide) ?_
    refine lv_iconst (v := 0) hx hb dL_raiseFor_15 (by decide) ?_
    exact wl_iret S hr hlk hk hch hA0 hR2 hoA hz (r := vp_updL r 0 _) pk_uLs hn3 hzs hq dL_raiseFor_16
  · have hE := (show KO [xIOB] _ from (KO_Ix (by decide +kernel))) E hk
    rw [List.mem_singleton] at hE; subst hE
    refine vx_catch (own := RL) (name := xIOB) hown [] (⟨0, 9, 12, 21⟩ : ExceptionTableEntry) [] (by rw [hxt]; rfl) (fun _ h => nomatch h) (by decide) (by decide) (hts (.classLink RL 21 xIOB) (by decide +kernel)) (va_Nw.use rfl (hG2.1.2.1 (.castable xIOB xIOB) (by decide +kernel) rfl)) hce hcv hcl ?_
    refine W.eq (g2 := F0 mZ 12 ls [.ref q]) rfl ?_
    refine lv_astore_n (lv' := [(3, .ref q), (0, .ref (A 0)), (1, .int i), (2, .ref o)]) hx hb dL_raiseFor_12 rfl hl (by decide) rfl (fun ls hl => ?_)
    refine lv_iconst (v := 1) hx hb dL_raiseFor_13 (by decide) ?_
    exact wl_iretx S hr hlk hk ((congrArg (ecd _) hk).trans eB_B) hext hA0 hR (rp_lt hR) ho dL_raiseFor_14
