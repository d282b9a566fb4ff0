/-! the law's wrappers -/
def KO (L : List String) (ko : Option String) : Prop := ∀ E, ko = some E → E ∈ L
theorem KO_or {L : List String} {a b : Option String} (h1 : KO L a) (h2 : KO L b) : KO L (kOr a b) := by
  intro E h
  cases a with
  | none => exact h2 E h
  | some e => exact h1 E h
theorem KO_Arg {L : List String} {v lo hi : Int32} (h : xIAE ∈ L) : KO L (koArg v lo hi) := by
  intro E hE
  rw [koArg_e] at hE
  split at hE
  · cases hE
  · cases hE; exact h
theorem KO_Ix {L : List String} {v : Int32} {n : Nat} (h : xIOB ∈ L) : KO L (koIx v n) := by
  intro E hE
  unfold koIx at hE
  split at hE
  · cases hE; exact h
  · split at hE
    · cases hE; exact h
    · cases hE
theorem KO_if {L : List String} {E0 : String} {c : Prop} [Decidable c] (h : E0 ∈ L) : KO L (if c then some E0 else none) := by
  intro E hE
  split at hE
  · cases hE; exact h
  · cases hE
theorem KO_Pl {L : List String} {x y a b : Int32} (h : xIAE ∈ L) : KO L (koPl x y a b) := by
  rw [koPl_e]; exact KO_if h
theorem KO_Time {L : List String} {g : Nat → Nat} {a b : Int32} (h : xIAE ∈ L) : KO L (koTime g a b) := by
  rw [koTime_e]; exact KO_if h
theorem KO_NL {L : List String} {g : Nat → Nat} (h : xISE ∈ L) : KO L (koNL g) := KO_if h
theorem nmL_obstacle : nmV yL_obstacle RL 7 := by decide +kernel
set_option maxHeartbeats 1000000 in
set_option maxRecDepth 100000 in
theorem c_L_obstacle (l : Launch) (G : GT) (hlf : l.stackTraces = false) (A : Nat → Nat) (f : Nat → Nat → Int32) (g : Nat → Nat) (H : Heap) (hR : RP G A f g H) (hA : RA G A) (o : Nat) (r : Nat → Int64) (ho : va_at G.1 vwCl (o, oL G r) H) (hoA : ∀ k, rD k → o ≠ A k) (x y t a b : Int32) : WLV l G A o H yL_obstacle wsL_obstacle { frames := 10, cells := 1, slots := 6, locals := 172 } [.ref (A 0), .int x, .int y, .int t, .int a, .int b, .ref o] [xIAE, xISE] (kOr (koPl x y a b) (kOr (koArg t 0 999) (if 12 ≤ nI (g 1) then some xISE else none))) (nI (g 1)) f g (obAdd f g x y t a b) (gset g 1 (g 1 + 1)) := by
  refine wl_of (cc := cL_obstacle) (maxL := 8) (ret := some .int) (hh := [(0, 16, 19, 13), (0, 16, 23, 15)]) (by decide) rfl (Nat.le_of_ble_eq_true rfl) ?_
  intro pZ eZ sZ mZ bZ meZ cZ ls S hr hlk hxt hl hHs hG hN
  have S : CallFix pZ mZ cZ cL_obstacle 8 sZ _ wsL_obstacle RL := S
  have hx := S.1
  have hb := S.2.1
  have hown := S.2.2.2.1
  have hts := S.2.2.2.2
  have hl : lv_has ls 8 [(0, .ref (A 0)), (1, .int x), (2, .int y), (3, .int t), (4, .int a), (5, .int b), (6, .ref o)] := hl
  refine lv_aload hx hb dL_obstacle_0 (lv_at hl 6 rfl) ?_
  refine lv_iconst (v := 0) hx hb dL_obstacle_2 (by decide) ?_
  refine lv_aload_n hx hb dL_obstacle_3 rfl (lv_at hl 0 rfl) ?_
  refine lv_iload_n hx hb dL_obstacle_4 rfl (lv_at hl 1 rfl) ?_
  refine lv_iload_n hx hb dL_obstacle_5 rfl (lv_at hl 2 rfl) ?_
  refine lv_iload_n hx hb dL_obstacle_6 rfl (lv_at hl 3 rfl) ?_
  refine lv_iload hx hb dL_obstacle_7 (lv_at hl 4 rfl) ?_
  refine lv_iload hx hb dL_obstacle_9 (lv_at hl 5 rfl) ?_
  refine wl_V (As := [.int x, .int y, .int t, .int a, .int b]) (rest := [.int 0, .ref o]) S hG hA (c_X7_obstacle l G hlf A f g H hR hA x y t a b) gL_obstacle_X7_obstacle rfl ⟨rfl, rfl⟩ nmX7_obstacle ⟨Nat.le_of_ble_eq_true rfl, Nat.le_of_ble_eq_true rfl⟩ (rd_rcv hG.1 (rP_0 hR) rfl) rfl hl.1 rfl (Nat.le_of_ble_eq_true rfl) ⟨Nat.le_of_ble_eq_true rfl, Nat.le_of_ble_eq_true rfl⟩ dL_obstacle_11 (fun hk H2 locs2 hR2 hch hA0 hG2 => ?_) (fun E H2 locs2 q ce hk hext hA0 hG2 hce hcv hcl => ?_)
  · refine W.eq (g2 := F0 mZ 14 ls [.int (nI (g 1)), .int 0, .ref o]) rfl ?_
    refine lv_i2l (v := (nI (g 1) : Int32).toInt64) hx hb dL_obstacle_14 rfl ?_
    refine wl_last S hG2.1 (va_at.kept ho (hch.2 _ (va_at.lt ho) (fun k hk9 => hoA k hk9))) dL_obstacle_15 (fun H3 z hz hn3 hzs hq => ?_)
    refine lv_goto (tgt := 27) hx hb dL_obstacle_16 (by decide) ?_
    refine lv_iconst (v := 0) hx hb dL_obstacle_27 (by decide) ?_
    exact wl_iret S hr hlk hk hch hA0 hR2 hoA hz (r := vp_updL r 0 _) pk_uLs hn3 hzs hq dL_obstacle_28
  · have hE := (show KO [xIAE, xISE] _ from (KO_or (KO_Pl (by decide +kernel)) (KO_or (KO_Arg (by decide +kernel)) (KO_if (by decide +kernel))))) E hk
    simp only [List.mem_cons, List.not_mem_nil, or_false] at hE
    rcases hE with rfl | rfl
    · refine vx_catch (own := RL) (name := xIAE) hown [] (⟨0, 16, 19, 13⟩ : ExceptionTableEntry) [(⟨0, 16, 23, 15⟩ : ExceptionTableEntry)] (by rw [hxt]; rfl) (fun _ h => nomatch h) (by decide) (by decide) (hts (.classLink RL 13 xIAE) (by decide +kernel)) (va_Nw.use rfl (hG2.1.2.1 (.castable xIAE xIAE) (by decide +kernel) rfl)) hce hcv hcl ?_
      refine W.eq (g2 := F0 mZ 19 ls [.ref q]) rfl ?_
      refine lv_astore (lv' := [(7, .ref q), (0, .ref (A 0)), (1, .int x), (2, .int y), (3, .int t), (4, .int a), (5, .int b), (6, .ref o)]) hx hb dL_obstacle_19 hl (by decide) rfl (fun ls hl => ?_)
      refine lv_iconst (v := 1) hx hb dL_obstacle_21 (by decide) ?_
      exact wl_iretx S hr hlk hk ((congrArg (ecd _) hk).trans eAS_A) hext hA0 hR (rp_lt hR) ho dL_obstacle_22
    · refine vx_catch (own := RL) (name := xISE) hown [(⟨0, 16, 19, 13⟩ : ExceptionTableEntry)] (⟨0, 16, 23, 15⟩ : ExceptionTableEntry) [] (by rw [hxt]; rfl) (List.forall_mem_cons.mpr ⟨Or.inr ⟨by decide, xIAE, hts (.classLink RL 13 xIAE) (by decide +kernel), hN.2.1⟩, fun _ h => nomatch h⟩) (by decide) (by decide) (hts (.classLink RL 15 xISE) (by decide +kernel)) (va_Nw.use rfl (hG2.1.2.1 (.castable xISE xISE) (by decide +kernel) rfl)) hce hcv hcl ?_
      refine W.eq (g2 := F0 mZ 23 ls [.ref q]) rfl ?_
      refine lv_astore (lv' := [(7, .ref q), (0, .ref (A 0)), (1, .int x), (2, .int y), (3, .int t), (4, .int a), (5, .int b), (6, .ref o)]) hx hb dL_obstacle_23 hl (by decide) rfl (fun ls hl => ?_)
      refine lv_iconst (v := 2) hx hb dL_obstacle_25 (by decide) ?_
      exact wl_iretx S hr hlk hk ((congrArg (ecd _) hk).trans eAS_S) hext hA0 hR (rp_lt hR) ho dL_obstacle_26

theorem nmL_end : nmV yL_end RL 3 := by decide +kernel
set_option maxHeartbeats 1000000 in
set_option maxRecDepth 100000 in
theorem c_L_end (l : Launch) (G : GT) (hlf : l.stackTraces = false) (A : Nat → Nat) (f : Nat → Nat → Int32) (g : Nat → Nat) (H : Heap) (hR : RP G A f g H) (hA : RA G A) (o : Nat) (r : Nat → Int64) (ho : va_at G.1 vwCl (o, oL G r) H) (hoA : ∀ k, rD k → o ≠ A k) (i : Int32) : WLV l G A o H yL_end wsL_end { frames := 8, cells := 1, slots := 6, locals := 125 } [.ref (A 0), .int i, .ref o] [xIOB, xISE] (kOr (koIx i (g 1)) (if ¬ rowAt 12 (f 14) i = -1 ∧ ¬ nI (g 0) < rowAt 12 (f 14) i then some xISE else none)) (rowAt 12 (f 14) i) f g (rowPut f 14 i (imax (nI (g 0)) (rowAt 12 (f 13) i))) (g) := by
  refine wl_of (cc := cL_end) (maxL := 4) (ret := some .int) (hh := [(0, 9, 12, 21), (0, 9, 15, 15)]) (by decide) rfl (Nat.le_of_ble_eq_true rfl) ?_
  intro pZ eZ sZ mZ bZ meZ cZ ls S hr hlk hxt hl hHs hG hN
  have S : CallFix pZ mZ cZ cL_end 4 sZ _ wsL_end RL := S
  have hx := S.1
  have hb := S.2.1
  have hown := S.2.2.2.1
  have hts := S.2.2.2.2
  have hl : lv_has ls 4 [(0, .ref (A 0)), (1, .int i), (2, .ref o)] := hl
  refine lv_aload_n hx hb dL_end_0 rfl (lv_at hl 2 rfl) ?_
  refine lv_iconst (v := 0) hx hb dL_end_1 (by decide) ?_
  refine lv_aload_n hx hb dL_end_2 rfl (lv_at hl 0 rfl) ?_
  refine lv_iload_n hx hb dL_end_3 rfl (lv_at hl 1 rfl) ?_
  refine wl_V (As := [.int i]) (rest := [.int 0, .ref o]) S hG hA (c_X7_end l G hlf A f g H hR hA i) gL_end_X7_end rfl ⟨rfl, rfl⟩ nmX7_end ⟨Nat.le_of_ble_eq_true rfl, Nat.le_of_ble_eq_true rfl⟩ (rd_rcv hG.1 (rP_0 hR) rfl) rfl hl.1 rfl (Nat.le_of_ble_eq_true rfl) ⟨Nat.le_of_ble_eq_true rfl, Nat.le_of_ble_eq_true rfl⟩ dL_end_4 (fun hk H2 locs2 hR2 hch hA0 hG2 => ?_) (fun E H2 locs2 q ce hk hext hA0 hG2 hce hcv hcl => ?_)
  · refine W.eq (g2 := F0 mZ 7 ls [.int (rowAt 12 (f 14) i), .int 0, .ref o]) rfl ?_
    refine lv_i2l (v := (rowAt 12 (f 14) i : Int32).toInt64) hx hb dL_end_7 rfl ?_
    refine wl_last S hG2.1 (va_at.kept ho (hch.2 _ (va_at.lt ho) (fun k hk9 => hoA k hk9))) dL_end_8 (fun H3 z hz hn3 hzs hq => ?_)
    refine lv_goto (tgt := 18) hx hb dL_end_9 (by decide) ?_
    refine lv_iconst (v := 0) hx hb dL_end_18 (by decide) ?_
    exact wl_iret S hr hlk hk hch hA0 hR2 hoA hz (r := vp_updL r 0 _) pk_uLs hn3 hzs hq dL_end_19
  · have hE := (show KO [xIOB, xISE] _ from (KO_or (KO_Ix (by decide +kernel)) (KO_if (by decide +kernel)))) E hk
    simp only [List.mem_cons, List.not_mem_nil, or_false] at hE
    rcases hE with rfl | rfl
    · refine vx_catch (own := RL) (name := xIOB) hown [] (⟨0, 9, 12, 21⟩ : ExceptionTableEntry) [(⟨0, 9, 15, 15⟩ : ExceptionTableEntry)] (by rw [hxt]; rfl) (fun _ h => nomatch h) (by decide) (by decide) (hts (.classLink RL 21 xIOB) (by decide +kernel)) (va_Nw.use rfl (hG2.1.2.1 (.castable xIOB xIOB) (by decide +kernel) rfl)) hce hcv hcl ?_
      refine W.eq (g2 := F0 mZ 12 ls [.ref q]) rfl ?_
      refine lv_astore_n (lv' := [(3, .ref q), (0, .ref (A 0)), (1, .int i), (2, .ref o)]) hx hb dL_end_12 rfl hl (by decide) rfl (fun ls hl => ?_)
      refine lv_iconst (v := 1) hx hb dL_end_13 (by decide) ?_
      exact wl_iretx S hr hlk hk ((congrArg (ecd _) hk).trans eBS_B) hext hA0 hR (rp_lt hR) ho dL_end_14
    · refine vx_catch (own := RL) (name := xISE) hown [(⟨0, 9, 12, 21⟩ : ExceptionTableEntry)] (⟨0, 9, 15, 15⟩ : ExceptionTableEntry) [] (by rw [hxt]; rfl) (List.forall_mem_cons.mpr ⟨Or.inr ⟨by decide, xIOB, hts (.classLink RL 21 xIOB) (by decide +kernel), hN.2.2⟩, fun _ h => nomatch h⟩) (by decide) (by decide) (hts (.classLink RL 15 xISE) (by decide +kernel)) (va_Nw.use rfl (hG2.1.2.1 (.castable xISE xISE) (by decide +kernel) rfl)) hce hcv hcl ?_
      refine W.eq (g2 := F0 mZ 15 ls [.ref q]) rfl ?_
      refine lv_astore_n (lv' := [(3, .ref q), (0, .ref (A 0)), (1, .int i), (2, .ref o)]) hx hb dL_end_15 rfl hl (by decide) rfl (fun ls hl => ?_)
      refine lv_iconst (v := 2) hx hb dL_end_16 (by decide) ?_
      exact wl_iretx S hr hlk hk ((congrArg (ecd _) hk).trans eBS_S) hext hA0 hR (rp_lt hR) ho dL_end_17

theorem nmL_aid : nmV yL_aid RL 4 := by decide +kernel
set_option maxHeartbeats 1000000 in
set_option maxRecDepth 100000 in
theorem c_L_aid (l : Launch) (G : GT) (hlf : l.stackTraces = false) (A : Nat → Nat) (f : Nat → Nat → Int32) (g : Nat → Nat) (H : Heap) (hR : RP G A f g H) (hA : RA G A) (o : Nat) (r : Nat → Int64) (ho : va_at G.1 vwCl (o, oL G r) H) (hoA : ∀ k, rD k → o ≠ A k) (i k : Int32) : WLV l G A o H yL_aid wsL_aid { frames := 8, cells := 1, slots := 6, locals := 127 } [.ref (A 0), .int i, .int k, .ref o] [xIOB, xIAE] (kOr (koIx i 3) (koArg k 0 2)) (rowAt 3 (f 15) i) f g (rowPut f 15 i k) (g) := by
  refine wl_of (cc := cL_aid) (maxL := 5) (ret := some .int) (hh := [(0, 10, 13, 21), (0, 10, 17, 13)]) (by decide) rfl (Nat.le_of_ble_eq_true rfl) ?_
  intro pZ eZ sZ mZ bZ meZ cZ ls S hr hlk hxt hl hHs hG hN
  have S : CallFix pZ mZ cZ cL_aid 5 sZ _ wsL_aid RL := S
  have hx := S.1
  have hb := S.2.1
  have hown := S.2.2.2.1
  have hts := S.2.2.2.2
  have hl : lv_has ls 5 [(0, .ref (A 0)), (1, .int i), (2, .int k), (3, .ref o)] := hl
  refine lv_aload_n hx hb dL_aid_0 rfl (lv_at hl 3 rfl) ?_
  refine lv_iconst (v := 0) hx hb dL_aid_1 (by decide) ?_
  refine lv_aload_n hx hb dL_aid_2 rfl (lv_at hl 0 rfl) ?_
  refine lv_iload_n hx hb dL_aid_3 rfl (lv_at hl 1 rfl) ?_
  refine lv_iload_n hx hb dL_aid_4 rfl (lv_at hl 2 rfl) ?_
  refine wl_V (As := [.int i, .int k]) (rest := [.int 0, .ref o]) S hG hA (c_X7_aid l G hlf A f g H hR hA i k) gL_aid_X7_aid rfl ⟨rfl, rfl⟩ nmX7_aid ⟨Nat.le_of_ble_eq_true rfl, Nat.le_of_ble_eq_true rfl⟩ (rd_rcv hG.1 (rP_0 hR) rfl) rfl hl.1 rfl (Nat.le_of_ble_eq_true rfl) ⟨Nat.le_of_ble_eq_true rfl, Nat.le_of_ble_eq_true rfl⟩ dL_aid_5 (fun hk H2 locs2 hR2 hch hA0 hG2 => ?_) (fun E H2 locs2 q ce hk hext hA0 hG2 hce hcv hcl => ?_)
  · refine W.eq (g2 := F0 mZ 8 ls [.int (rowAt 3 (f 15) i), .int 0, .ref o]) rfl ?_
    refine lv_i2l (v := (rowAt 3 (f 15) i : Int32).toInt64) hx hb dL_aid_8 rfl ?_
    refine wl_last S hG2.1 (va_at.kept ho (hch.2 _ (va_at.lt ho) (fun k hk9 => hoA k hk9))) dL_aid_9 (fun H3 z hz hn3 hzs hq => ?_)
    refine lv_goto (tgt := 21) hx hb dL_aid_10 (by decide) ?_
    refine lv_iconst (v := 0) hx hb dL_aid_21 (by decide) ?_
    exact wl_iret S hr hlk hk hch hA0 hR2 hoA hz (r := vp_updL r 0 _) pk_uLs hn3 hzs hq dL_aid_22
  · have hE := (show KO [xIOB, xIAE] _ from (KO_or (KO_Ix (by decide +kernel)) (KO_Arg (by decide +kernel)))) E hk
    simp only [List.mem_cons, List.not_mem_nil, or_false] at hE
    rcases hE with rfl | rfl
    · refine vx_catch (own := RL) (name := xIOB) hown [] (⟨0, 10, 13, 21⟩ : ExceptionTableEntry) [(⟨0, 10, 17, 13⟩ : ExceptionTableEntry)] (by rw [hxt]; rfl) (fun _ h => nomatch h) (by decide) (by decide) (hts (.classLink RL 21 xIOB) (by decide +kernel)) (va_Nw.use rfl (hG2.1.2.1 (.castable xIOB xIOB) (by decide +kernel) rfl)) hce hcv hcl ?_
      refine W.eq (g2 := F0 mZ 13 ls [.ref q]) rfl ?_
      refine lv_astore (lv' := [(4, .ref q), (0, .ref (A 0)), (1, .int i), (2, .int k), (3, .ref o)]) hx hb dL_aid_13 hl (by decide) rfl (fun ls hl => ?_)
      refine lv_iconst (v := 1) hx hb dL_aid_15 (by decide) ?_
      exact wl_iretx S hr hlk hk ((congrArg (ecd _) hk).trans eBA_B) hext hA0 hR (rp_lt hR) ho dL_aid_16
    · refine vx_catch (own := RL) (name := xIAE) hown [(⟨0, 10, 13, 21⟩ : ExceptionTableEntry)] (⟨0, 10, 17, 13⟩ : ExceptionTableEntry) [] (by rw [hxt]; rfl) (List.forall_mem_cons.mpr ⟨Or.inr ⟨by decide, xIOB, hts (.classLink RL 21 xIOB) (by decide +kernel), hN.1⟩, fun _ h => nomatch h⟩) (by decide) (by decide) (hts (.classLink RL 13 xIAE) (by decide +kernel)) (va_Nw.use rfl (hG2.1.2.1 (.castable xIAE xIAE) (by decide +kernel) rfl)) hce hcv hcl ?_
      refine W.eq (g2 := F0 mZ 17 ls [.ref q]) rfl ?_
      refine lv_astore (lv' := [(4, .ref q), (0, .ref (A 0)), (1, .int i), (2, .int k), (3, .ref o)]) hx hb dL_aid_17 hl (by decide) rfl (fun ls hl => ?_)
      refine lv_iconst (v := 2) hx hb dL_aid_19 (by decide) ?_
      exact wl_iretx S hr hlk hk ((congrArg (ecd _) hk).trans eBA_A) hext hA0 hR (rp_lt hR) ho dL_aid_20

theorem nmL_check : nmV yL_check RL 4 := by decide +kernel
set_option maxHeartbeats 1000000 in
set_option maxRecDepth 100000 in
theorem c_L_check (l : Launch) (G : GT) (hlf : l.stackTraces = false) (A : Nat → Nat) (f : Nat → Nat → Int32) (g : Nat → Nat) (H : Heap) (hR : RP G A f g H) (hA : RA G A) (o : Nat) (r : Nat → Int64) (ho : va_at G.1 vwCl (o, oL G r) H) (hoA : ∀ k, rD k → o ≠ A k) (i d : Int32) : WLV l G A o H yL_check wsL_check { frames := 8, cells := 1, slots := 6, locals := 127 } [.ref (A 0), .int i, .int d, .ref o] [xIOB, xIAE] (kOr (koIx i 3) (koArg d 0 200)) (imin (nI (g 0) + d) 399) f g (rowPut f 16 i (imin (nI (g 0) + d) 399)) (g) := by
  refine wl_of (cc := cL_check) (maxL := 5) (ret := some .int) (hh := [(0, 10, 13, 21), (0, 10, 17, 13)]) (by decide) rfl (Nat.le_of_ble_eq_true rfl) ?_
  intro pZ eZ sZ mZ bZ meZ cZ ls S hr hlk hxt hl hHs hG hN
  have S : CallFix pZ mZ cZ cL_check 5 sZ _ wsL_check RL := S
  have hx := S.1
  have hb := S.2.1
  have hown := S.2.2.2.1
  have hts := S.2.2.2.2
  have hl : lv_has ls 5 [(0, .ref (A 0)), (1, .int i), (2, .int d), (3, .ref o)] := hl
  refine lv_aload_n hx hb dL_check_0 rfl (lv_at hl 3 rfl) ?_
  refine lv_iconst (v := 0) hx hb dL_check_1 (by decide) ?_
  refine lv_aload_n hx hb dL_check_2 rfl (lv_at hl 0 rfl) ?_
  refine lv_iload_n hx hb dL_check_3 rfl (lv_at hl 1 rfl) ?_
  refine lv_iload_n hx hb dL_check_4 rfl (lv_at hl 2 rfl) ?_
  refine wl_V (As := [.int i, .int d]) (rest := [.int 0, .ref o]) S hG hA (c_X7_check l G hlf A f g H hR hA i d) gL_check_X7_check rfl ⟨rfl, rfl⟩ nmX7_check ⟨Nat.le_of_ble_eq_true rfl, Nat.le_of_ble_eq_true rfl⟩ (rd_rcv hG.1 (rP_0 hR) rfl) rfl hl.1 rfl (Nat.le_of_ble_eq_true rfl) ⟨Nat.le_of_ble_eq_true rfl, Nat.le_of_ble_eq_true rfl⟩ dL_check_5 (fun hk H2 locs2 hR2 hch hA0 hG2 => ?_) (fun E H2 locs2 q ce hk hext hA0 hG2 hce hcv hcl => ?_)
  · refine W.eq (g2 := F0 mZ 8 ls [.int (imin (nI (g 0) + d) 399), .int 0, .ref o]) rfl ?_
    refine lv_i2l (v := (imin (nI (g 0) + d) 399 : Int32).toInt64) hx hb dL_check_8 rfl ?_
    refine wl_last S hG2.1 (va_at.kept ho (hch.2 _ (va_at.lt ho) (fun k hk9 => hoA k hk9))) dL_check_9 (fun H3 z hz hn3 hzs hq => ?_)
    refine lv_goto (tgt := 21) hx hb dL_check_10 (by decide) ?_
    refine lv_iconst (v := 0) hx hb dL_check_21 (by decide) ?_
    exact wl_iret S hr hlk hk hch hA0 hR2 hoA hz (r := vp_updL r 0 _) pk_uLs hn3 hzs hq dL_check_22
  · have hE := (show KO [xIOB, xIAE] _ from (KO_or (KO_Ix (by decide +kernel)) (KO_Arg (by decide +kernel)))) E hk
    simp only [List.mem_cons, List.not_mem_nil, or_false] at hE
    rcases hE with rfl | rfl
    · refine vx_catch (own := RL) (name := xIOB) hown [] (⟨0, 10, 13, 21⟩ : ExceptionTableEntry) [(⟨0, 10, 17, 13⟩ : ExceptionTableEntry)] (by rw [hxt]; rfl) (fun _ h => nomatch h) (by decide) (by decide) (hts (.classLink RL 21 xIOB) (by decide +kernel)) (va_Nw.use rfl (hG2.1.2.1 (.castable xIOB xIOB) (by decide +kernel) rfl)) hce hcv hcl ?_
      refine W.eq (g2 := F0 mZ 13 ls [.ref q]) rfl ?_
      refine lv_astore (lv' := [(4, .ref q), (0, .ref (A 0)), (1, .int i), (2, .int d), (3, .ref o)]) hx hb dL_check_13 hl (by decide) rfl (fun ls hl => ?_)
      refine lv_iconst (v := 1) hx hb dL_check_15 (by decide) ?_
      exact wl_iretx S hr hlk hk ((congrArg (ecd _) hk).trans eBA_B) hext hA0 hR (rp_lt hR) ho dL_check_16
    · refine vx_catch (own := RL) (name := xIAE) hown [(⟨0, 10, 13, 21⟩ : ExceptionTableEntry)] (⟨0, 10, 17, 13⟩ : ExceptionTableEntry) [] (by rw [hxt]; rfl) (List.forall_mem_cons.mpr ⟨Or.inr ⟨by decide, xIOB, hts (.classLink RL 21 xIOB) (by decide +kernel), hN.1⟩, fun _ h => nomatch h⟩) (by decide) (by decide) (hts (.classLink RL 13 xIAE) (by decide +kernel)) (va_Nw.use rfl (hG2.1.2.1 (.castable xIAE xIAE) (by decide +kernel) rfl)) hce hcv hcl ?_
      refine W.eq (g2 := F0 mZ 17 ls [.ref q]) rfl ?_
      refine lv_astore (lv' := [(4, .ref q), (0, .ref (A 0)), (1, .int i), (2, .int d), (3, .ref o)]) hx hb dL_check_17 hl (by decide) rfl (fun ls hl => ?_)
      refine lv_iconst (v := 2) hx hb dL_check_19 (by decide) ?_
      exact wl_iretx S hr hlk hk ((congrArg (ecd _) hk).trans eBA_A) hext hA0 hR (rp_lt hR) ho dL_check_20

theorem nmL_procedure : nmV yL_procedure RL 4 := by decide +kernel
set_option maxHeartbeats 1000000 in
set_option maxRecDepth 100000 in
theorem c_L_procedure (l : Launch) (G : GT) (hlf : l.stackTraces = false) (A : Nat → Nat) (f : Nat → Nat → Int32) (g : Nat → Nat) (H : Heap) (hR : RP G A f g H) (hA : RA G A) (o : Nat) (r : Nat → Int64) (ho : va_at G.1 vwCl (o, oL G r) H) (hoA : ∀ k, rD k → o ≠ A k) (i v : Int32) : WLV l G A o H yL_procedure wsL_procedure { frames := 8, cells := 1, slots := 6, locals := 126 } [.ref (A 0), .int i, .int v, .ref o] [xIOB, xIAE, xISE] (kOr (koIx i 3) (kOr (koArg v 10 40) (if 4 ≤ nI (g 3) then some xISE else none))) (nI (g 3)) f g (prAdd f g i v) (gset g 3 (g 3 + 1)) := by
  refine wl_of (cc := cL_procedure) (maxL := 5) (ret := some .int) (hh := [(0, 10, 13, 21), (0, 10, 17, 13), (0, 10, 21, 15)]) (by decide) rfl (Nat.le_of_ble_eq_true rfl) ?_
  intro pZ eZ sZ mZ bZ meZ cZ ls S hr hlk hxt hl hHs hG hN
  have S : CallFix pZ mZ cZ cL_procedure 5 sZ _ wsL_procedure RL := S
  have hx := S.1
  have hb := S.2.1
  have hown := S.2.2.2.1
  have hts := S.2.2.2.2
  have hl : lv_has ls 5 [(0, .ref (A 0)), (1, .int i), (2, .int v), (3, .ref o)] := hl
  refine lv_aload_n hx hb dL_procedure_0 rfl (lv_at hl 3 rfl) ?_
  refine lv_iconst (v := 0) hx hb dL_procedure_1 (by decide) ?_
  refine lv_aload_n hx hb dL_procedure_2 rfl (lv_at hl 0 rfl) ?_
  refine lv_iload_n hx hb dL_procedure_3 rfl (lv_at hl 1 rfl) ?_
  refine lv_iload_n hx hb dL_procedure_4 rfl (lv_at hl 2 rfl) ?_
  refine wl_V (As := [.int i, .int v]) (rest := [.int 0, .ref o]) S hG hA (c_X7_procedure l G hlf A f g H hR hA i v) gL_procedure_X7_procedure rfl ⟨rfl, rfl⟩ nmX7_procedure ⟨Nat.le_of_ble_eq_true rfl, Nat.le_of_ble_eq_true rfl⟩ (rd_rcv hG.1 (rP_0 hR) rfl) rfl hl.1 rfl (Nat.le_of_ble_eq_true rfl) ⟨Nat.le_of_ble_eq_true rfl, Nat.le_of_ble_eq_true rfl⟩ dL_procedure_5 (fun hk H2 locs2 hR2 hch hA0 hG2 => ?_) (fun E H2 locs2 q ce hk hext hA0 hG2 hce hcv hcl => ?_)
  · refine W.eq (g2 := F0 mZ 8 ls [.int (nI (g 3)), .int 0, .ref o]) rfl ?_
    refine lv_i2l (v := (nI (g 3) : Int32).toInt64) hx hb dL_procedure_8 rfl ?_
    refine wl_last S hG2.1 (va_at.kept ho (hch.2 _ (va_at.lt ho) (fun k hk9 => hoA k hk9))) dL_procedure_9 (fun H3 z hz hn3 hzs hq => ?_)
    refine lv_goto (tgt := 25) hx hb dL_procedure_10 (by decide) ?_
    refine lv_iconst (v := 0) hx hb dL_procedure_25 (by decide) ?_
    exact wl_iret S hr hlk hk hch hA0 hR2 hoA hz (r := vp_updL r 0 _) pk_uLs hn3 hzs hq dL_procedure_26
  · have hE := (show KO [xIOB, xIAE, xISE] _ from (KO_or (KO_Ix (by decide +kernel)) (KO_or (KO_Arg (by decide +kernel)) (KO_if (by decide +kernel))))) E hk
    simp only [List.mem_cons, List.not_mem_nil, or_false] at hE
    rcases hE with rfl | rfl | rfl
    · refine vx_catch (own := RL) (name := xIOB) hown [] (⟨0, 10, 13, 21⟩ : ExceptionTableEntry) [(⟨0, 10, 17, 13⟩ : ExceptionTableEntry), (⟨0, 10, 21, 15⟩ : ExceptionTableEntry)] (by rw [hxt]; rfl) (fun _ h => nomatch h) (by decide) (by decide) (hts (.classLink RL 21 xIOB) (by decide +kernel)) (va_Nw.use rfl (hG2.1.2.1 (.castable xIOB xIOB) (by decide +kernel) rfl)) hce hcv hcl ?_
      refine W.eq (g2 := F0 mZ 13 ls [.ref q]) rfl ?_
      refine lv_astore (lv' := [(4, .ref q), (0, .ref (A 0)), (1, .int i), (2, .int v), (3, .ref o)]) hx hb dL_procedure_13 hl (by decide) rfl (fun ls hl => ?_)
      refine lv_iconst (v := 1) hx hb dL_procedure_15 (by decide) ?_
      exact wl_iretx S hr hlk hk ((congrArg (ecd _) hk).trans eBAS_B) hext hA0 hR (rp_lt hR) ho dL_procedure_16
    · refine vx_catch (own := RL) (name := xIAE) hown [(⟨0, 10, 13, 21⟩ : ExceptionTableEntry)] (⟨0, 10, 17, 13⟩ : ExceptionTableEntry) [(⟨0, 10, 21, 15⟩ : ExceptionTableEntry)] (by rw [hxt]; rfl) (List.forall_mem_cons.mpr ⟨Or.inr ⟨by decide, xIOB, hts (.classLink RL 21 xIOB) (by decide +kernel), hN.1⟩, fun _ h => nomatch h⟩) (by decide) (by decide) (hts (.classLink RL 13 xIAE) (by decide +kernel)) (va_Nw.use rfl (hG2.1.2.1 (.castable xIAE xIAE) (by decide +kernel) rfl)) hce hcv hcl ?_
      refine W.eq (g2 := F0 mZ 17 ls [.ref q]) rfl ?_
      refine lv_astore (lv' := [(4, .ref q), (0, .ref (A 0)), (1, .int i), (2, .int v), (3, .ref o)]) hx hb dL_procedure_17 hl (by decide) rfl (fun ls hl => ?_)
      refine lv_iconst (v := 2) hx hb dL_procedure_19 (by decide) ?_
      exact wl_iretx S hr hlk hk ((congrArg (ecd _) hk).trans eBAS_A) hext hA0 hR (rp_lt hR) ho dL_procedure_20
    · refine vx_catch (own := RL) (name := xISE) hown [(⟨0, 10, 13, 21⟩ : ExceptionTableEntry), (⟨0, 10, 17, 13⟩ : ExceptionTableEntry)] (⟨0, 10, 21, 15⟩ : ExceptionTableEntry) [] (by rw [hxt]; rfl) (List.forall_mem_cons.mpr ⟨Or.inr ⟨by decide, xIOB, hts (.classLink RL 21 xIOB) (by decide +kernel), hN.2.2⟩, List.forall_mem_cons.mpr ⟨Or.inr ⟨by decide, xIAE, hts (.classLink RL 13 xIAE) (by decide +kernel), hN.2.1⟩, fun _ h => nomatch h⟩⟩) (by decide) (by decide) (hts (.classLink RL 15 xISE) (by decide +kernel)) (va_Nw.use rfl (hG2.1.2.1 (.castable xISE xISE) (by decide +kernel) rfl)) hce hcv hcl ?_
      refine W.eq (g2 := F0 mZ 21 ls [.ref q]) rfl ?_
      refine lv_astore (lv' := [(4, .ref q), (0, .ref (A 0)), (1, .int i), (2, .int v), (3, .ref o)]) hx hb dL_procedure_21 hl (by decide) rfl (fun ls hl => ?_)
      refine lv_iconst (v := 3) hx hb dL_procedure_23 (by decide) ?_
      exact wl_iretx S hr hlk hk ((congrArg (ecd _) hk).trans eBAS_S) hext hA0 hR (rp_lt hR) ho dL_procedure_24

theorem nmL_pass : nmV yL_pass RL 3 := by decide +kernel
set_option maxHeartbeats 1000000 in
set_option maxRecDepth 100000 in
theorem c_L_pass (l : Launch) (G : GT) (hlf : l.stackTraces = false) (A : Nat → Nat) (f : Nat → Nat → Int32) (g : Nat → Nat) (H : Heap) (hR : RP G A f g H) (hA : RA G A) (o : Nat) (r : Nat → Int64) (ho : va_at G.1 vwCl (o, oL G r) H) (hoA : ∀ k, rD k → o ≠ A k) (d : Int32) (hg0 : g 0 ≤ 399) (hg7 : g 7 ≤ 63 * g 0) : WLV l G A o H yL_pass wsL_pass { frames := 8, cells := 1, slots := 6, locals := 144 } [.ref (A 0), .int d, .ref o] [xIAE, xISE] (kOr (koArg d 1 60) (if 399 < nI (g 0) + d then some xISE else none)) (nI (psT f g (cnt d))) f g (f) (gset (gset g 0 (g 0 + cnt d)) 7 (g 7 + psT f g (cnt d))) := by
  refine wl_of (cc := cL_pass) (maxL := 4) (ret := some .int) (hh := [(0, 9, 12, 13), (0, 9, 15, 15)]) (by decide) rfl (Nat.le_of_ble_eq_true rfl) ?_
  intro pZ eZ sZ mZ bZ meZ cZ ls S hr hlk hxt hl hHs hG hN
  have S : CallFix pZ mZ cZ cL_pass 4 sZ _ wsL_pass RL := S
  have hx := S.1
  have hb := S.2.1
  have hown := S.2.2.2.1
  have hts := S.2.2.2.2
  have hl : lv_has ls 4 [(0, .ref (A 0)), (1, .int d), (2, .ref o)] := hl
  refine lv_aload_n hx hb dL_pass_0 rfl (lv_at hl 2 rfl) ?_
  refine lv_iconst (v := 0) hx hb dL_pass_1 (by decide) ?_
  refine lv_aload_n hx hb dL_pass_2 rfl (lv_at hl 0 rfl) ?_
  refine lv_iload_n hx hb dL_pass_3 rfl (lv_at hl 1 rfl) ?_
  refine wl_V (As := [.int d]) (rest := [.int 0, .ref o]) S hG hA (c_X7_pass l G hlf A f g H hR hA d hg0 hg7) gL_pass_X7_pass rfl ⟨rfl, rfl⟩ nmX7_pass ⟨Nat.le_of_ble_eq_true rfl, Nat.le_of_ble_eq_true rfl⟩ (rd_rcv hG.1 (rP_0 hR) rfl) rfl hl.1 rfl (Nat.le_of_ble_eq_true rfl) ⟨Nat.le_of_ble_eq_true rfl, Nat.le_of_ble_eq_true rfl⟩ dL_pass_4 (fun hk H2 locs2 hR2 hch hA0 hG2 => ?_) (fun E H2 locs2 q ce hk hext hA0 hG2 hce hcv hcl => ?_)
  · refine W.eq (g2 := F0 mZ 7 ls [.int (nI (psT f g (cnt d))), .int 0, .ref o]) rfl ?_
    refine lv_i2l (v := (nI (psT f g (cnt d)) : Int32).toInt64) hx hb dL_pass_7 rfl ?_
    refine wl_last S hG2.1 (va_at.kept ho (hch.2 _ (va_at.lt ho) (fun k hk9 => hoA k hk9))) dL_pass_8 (fun H3 z hz hn3 hzs hq => ?_)
    refine lv_goto (tgt := 18) hx hb dL_pass_9 (by decide) ?_
    refine lv_iconst (v := 0) hx hb dL_pass_18 (by decide) ?_
    exact wl_iret S hr hlk hk hch hA0 hR2 hoA hz (r := vp_updL r 0 _) pk_uLs hn3 hzs hq dL_pass_19
  · have hE := (show KO [xIAE, xISE] _ from (KO_or (KO_Arg (by decide +kernel)) (KO_if (by decide +kernel)))) E hk
    simp only [List.mem_cons, List.not_mem_nil, or_false] at hE
    rcases hE with rfl | rfl
    · refine vx_catch (own := RL) (name := xIAE) hown [] (⟨0, 9, 12, 13⟩ : ExceptionTableEntry) [(⟨0, 9, 15, 15⟩ : ExceptionTableEntry)] (by rw [hxt]; rfl) (fun _ h => nomatch h) (by decide) (by decide) (hts (.classLink RL 13 xIAE) (by decide +kernel)) (va_Nw.use rfl (hG2.1.2.1 (.castable xIAE xIAE) (by decide +kernel) rfl)) hce hcv hcl ?_
      refine W.eq (g2 := F0 mZ 12 ls [.ref q]) rfl ?_
      refine lv_astore_n (lv' := [(3, .ref q), (0, .ref (A 0)), (1, .int d), (2, .ref o)]) hx hb dL_pass_12 rfl hl (by decide) rfl (fun ls hl => ?_)
      refine lv_iconst (v := 1) hx hb dL_pass_13 (by decide) ?_
      exact wl_iretx S hr hlk hk ((congrArg (ecd _) hk).trans eAS_A) hext hA0 hR (rp_lt hR) ho dL_pass_14
    · refine vx_catch (own := RL) (name := xISE) hown [(⟨0, 9, 12, 13⟩ : ExceptionTableEntry)] (⟨0, 9, 15, 15⟩ : ExceptionTableEntry) [] (by rw [hxt]; rfl) (List.forall_mem_cons.mpr ⟨Or.inr ⟨by decide, xIAE, hts (.classLink RL 13 xIAE) (by decide +kernel), hN.2.1⟩, fun _ h => nomatch h⟩) (by decide) (by decide) (hts (.classLink RL 15 xISE) (by decide +kernel)) (va_Nw.use rfl (hG2.1.2.1 (.castable xISE xISE) (by decide +kernel) rfl)) hce hcv hcl ?_
      refine W.eq (g2 := F0 mZ 15 ls [.ref q]) rfl ?_
      refine lv_astore_n (lv' := [(3, .ref q), (0, .ref (A 0)), (1, .int d), (2, .ref o)]) hx hb dL_pass_15 rfl hl (by decide) rfl (fun ls hl => ?_)
      refine lv_iconst (v := 2) hx hb dL_pass_16 (by decide) ?_
      exact wl_iretx S hr hlk hk ((congrArg (ecd _) hk).trans eAS_S) hext hA0 hR (rp_lt hR) ho dL_pass_17

theorem nmL_amend : nmV yL_amend RL 3 := by decide +kernel
set_option maxHeartbeats 1000000 in
set_option maxRecDepth 100000 in
theorem c_L_amend (l : Launch) (G : GT) (hlf : l.stackTraces = false) (A : Nat → Nat) (f : Nat → Nat → Int32) (g : Nat → Nat) (H : Heap) (hR : RP G A f g H) (hA : RA G A) (o : Nat) (r : Nat → Int64) (ho : va_at G.1 vwCl (o, oL G r) H) (hoA : ∀ k, rD k → o ≠ A k) (i : Int32) (hg0 : g 0 ≤ 399) : WLV l G A o H yL_amend wsL_amend { frames := 8, cells := 1, slots := 6, locals := 127 } [.ref (A 0), .int i, .ref o] [xIOB, xISE] (kOr (koIx i (g 3)) (if 20 ≤ nI (g 4) ∨ 399 < nI (frN g) then some xISE else none)) (amH f g i) f g (amAdd f g i (nI (frN g)) (amH f g i)) (gset g 4 (g 4 + 1)) := by
  refine wl_of (cc := cL_amend) (maxL := 4) (ret := some .int) (hh := [(0, 9, 12, 21), (0, 9, 15, 15)]) (by decide) rfl (Nat.le_of_ble_eq_true rfl) ?_
  intro pZ eZ sZ mZ bZ meZ cZ ls S hr hlk hxt hl hHs hG hN
  have S : CallFix pZ mZ cZ cL_amend 4 sZ _ wsL_amend RL := S
  have hx := S.1
  have hb := S.2.1
  have hown := S.2.2.2.1
  have hts := S.2.2.2.2
  have hl : lv_has ls 4 [(0, .ref (A 0)), (1, .int i), (2, .ref o)] := hl
  refine lv_aload_n hx hb dL_amend_0 rfl (lv_at hl 2 rfl) ?_
  refine lv_iconst (v := 0) hx hb dL_amend_1 (by decide) ?_
  refine lv_aload_n hx hb dL_amend_2 rfl (lv_at hl 0 rfl) ?_
  refine lv_iload_n hx hb dL_amend_3 rfl (lv_at hl 1 rfl) ?_
  refine wl_V (As := [.int i]) (rest := [.int 0, .ref o]) S hG hA (c_X7_amend l G hlf A f g H hR hA i hg0) gL_amend_X7_amend rfl ⟨rfl, rfl⟩ nmX7_amend ⟨Nat.le_of_ble_eq_true rfl, Nat.le_of_ble_eq_true rfl⟩ (rd_rcv hG.1 (rP_0 hR) rfl) rfl hl.1 rfl (Nat.le_of_ble_eq_true rfl) ⟨Nat.le_of_ble_eq_true rfl, Nat.le_of_ble_eq_true rfl⟩ dL_amend_4 (fun hk H2 locs2 hR2 hch hA0 hG2 => ?_) (fun E H2 locs2 q ce hk hext hA0 hG2 hce hcv hcl => ?_)
  · refine W.eq (g2 := F0 mZ 7 ls [.int (amH f g i), .int 0, .ref o]) rfl ?_
    refine lv_i2l (v := (amH f g i : Int32).toInt64) hx hb dL_amend_7 rfl ?_
    refine wl_last S hG2.1 (va_at.kept ho (hch.2 _ (va_at.lt ho) (fun k hk9 => hoA k hk9))) dL_amend_8 (fun H3 z hz hn3 hzs hq => ?_)
    refine lv_goto (tgt := 18) hx hb dL_amend_9 (by decide) ?_
    refine lv_iconst (v := 0) hx hb dL_amend_18 (by decide) ?_
    exact wl_iret S hr hlk hk hch hA0 hR2 hoA hz (r := vp_updL r 0 _) pk_uLs hn3 hzs hq dL_amend_19
  · have hE := (show KO [xIOB, xISE] _ from (KO_or (KO_Ix (by decide +kernel)) (KO_if (by decide +kernel)))) E hk
    simp only [List.mem_cons, List.not_mem_nil, or_false] at hE
    rcases hE with rfl | rfl
    · refine vx_catch (own := RL) (name := xIOB) hown [] (⟨0, 9, 12, 21⟩ : ExceptionTableEntry) [(⟨0, 9, 15, 15⟩ : ExceptionTableEntry)] (by rw [hxt]; rfl) (fun _ h => nomatch h) (by decide) (by decide) (hts (.classLink RL 21 xIOB) (by decide +kernel)) (va_Nw.use rfl (hG2.1.2.1 (.castable xIOB xIOB) (by decide +kernel) rfl)) hce hcv hcl ?_
      refine W.eq (g2 := F0 mZ 12 ls [.ref q]) rfl ?_
      refine lv_astore_n (lv' := [(3, .ref q), (0, .ref (A 0)), (1, .int i), (2, .ref o)]) hx hb dL_amend_12 rfl hl (by decide) rfl (fun ls hl => ?_)
      refine lv_iconst (v := 1) hx hb dL_amend_13 (by decide) ?_
      exact wl_iretx S hr hlk hk ((congrArg (ecd _) hk).trans eBS_B) hext hA0 hR (rp_lt hR) ho dL_amend_14
    · refine vx_catch (own := RL) (name := xISE) hown [(⟨0, 9, 12, 21⟩ : ExceptionTableEntry)] (⟨0, 9, 15, 15⟩ : ExceptionTableEntry) [] (by rw [hxt]; rfl) (List.forall_mem_cons.mpr ⟨Or.inr ⟨by decide, xIOB, hts (.classLink RL 21 xIOB) (by decide +kernel), hN.2.2⟩, fun _ h => nomatch h⟩) (by decide) (by decide) (hts (.classLink RL 15 xISE) (by decide +kernel)) (va_Nw.use rfl (hG2.1.2.1 (.castable xISE xISE) (by decide +kernel) rfl)) hce hcv hcl ?_
      refine W.eq (g2 := F0 mZ 15 ls [.ref q]) rfl ?_
      refine lv_astore_n (lv' := [(3, .ref q), (0, .ref (A 0)), (1, .int i), (2, .ref o)]) hx hb dL_amend_15 rfl hl (by decide) rfl (fun ls hl => ?_)
      refine lv_iconst (v := 2) hx hb dL_amend_16 (by decide) ?_
      exact wl_iretx S hr hlk hk ((congrArg (ecd _) hk).trans eBS_S) hext hA0 hR (rp_lt hR) ho dL_amend_17

theorem nmL_raise : nmV yL_raise RL 6 := by decide +kernel
set_option maxHeartbeats 1000000 in
set_option maxRecDepth 100000 in
theorem c_L_raise (l : Launch) (G : GT) (hlf : l.stackTraces = false) (A : Nat → Nat) (f : Nat → Nat → Int32) (g : Nat → Nat) (H : Heap) (hR : RP G A f g H) (hA : RA G A) (o : Nat) (r : Nat → Int64) (ho : va_at G.1 vwCl (o, oL G r) H) (hoA : ∀ k, rD k → o ≠ A k) (i v a b : Int32) : WLV l G A o H yL_raise wsL_raise { frames := 9, cells := 1, slots := 6, locals := 150 } [.ref (A 0), .int i, .int v, .int a, .int b, .ref o] [xIOB, xIAE, xISE] (kOr (koIx i (g 3)) (kOr (koArg v 1 500) (kOr (koTime g a b) (koNL g)))) (nI (g 5)) f g (noAdd f g 0 i v a b) (gset g 5 (g 5 + 1)) := by
  refine wl_of (cc := cL_raise) (maxL := 7) (ret := some .int) (hh := [(0, 14, 17, 21), (0, 14, 21, 13), (0, 14, 25, 15)]) (by decide) rfl (Nat.le_of_ble_eq_true rfl) ?_
  intro pZ eZ sZ mZ bZ meZ cZ ls S hr hlk hxt hl hHs hG hN
  have S : CallFix pZ mZ cZ cL_raise 7 sZ _ wsL_raise RL := S
  have hx := S.1
  have hb := S.2.1
  have hown := S.2.2.2.1
  have hts := S.2.2.2.2
  have hl : lv_has ls 7 [(0, .ref (A 0)), (1, .int i), (2, .int v), (3, .int a), (4, .int b), (5, .ref o)] := hl
  refine lv_aload hx hb dL_raise_0 (lv_at hl 5 rfl) ?_
  refine lv_iconst (v := 0) hx hb dL_raise_2 (by decide) ?_
  refine lv_aload_n hx hb dL_raise_3 rfl (lv_at hl 0 rfl) ?_
  refine lv_iload_n hx hb dL_raise_4 rfl (lv_at hl 1 rfl) ?_
  refine lv_iload_n hx hb dL_raise_5 rfl (lv_at hl 2 rfl) ?_
  refine lv_iload_n hx hb dL_raise_6 rfl (lv_at hl 3 rfl) ?_
  refine lv_iload hx hb dL_raise_7 (lv_at hl 4 rfl) ?_
  refine wl_V (As := [.int i, .int v, .int a, .int b]) (rest := [.int 0, .ref o]) S hG hA (c_X7_raise l G hlf A f g H hR hA i v a b) gL_raise_X7_raise rfl ⟨rfl, rfl⟩ nmX7_raise ⟨Nat.le_of_ble_eq_true rfl, Nat.le_of_ble_eq_true rfl⟩ (rd_rcv hG.1 (rP_0 hR) rfl) rfl hl.1 rfl (Nat.le_of_ble_eq_true rfl) ⟨Nat.le_of_ble_eq_true rfl, Nat.le_of_ble_eq_true rfl⟩ dL_raise_9 (fun hk H2 locs2 hR2 hch hA0 hG2 => ?_) (fun E H2 locs2 q ce hk hext hA0 hG2 hce hcv hcl => ?_)
  · refine W.eq (g2 := F0 mZ 12 ls [.int (nI (g 5)), .int 0, .ref o]) rfl ?_
    refine lv_i2l (v := (nI (g 5) : Int32).toInt64) hx hb dL_raise_12 rfl ?_
    refine wl_last S hG2.1 (va_at.kept ho (hch.2 _ (va_at.lt ho) (fun k hk9 => hoA k hk9))) dL_raise_13 (fun H3 z hz hn3 hzs hq => ?_)
    refine lv_goto (tgt := 29) hx hb dL_raise_14 (by decide) ?_
    refine lv_iconst (v := 0) hx hb dL_raise_29 (by decide) ?_
    exact wl_iret S hr hlk hk hch hA0 hR2 hoA hz (r := vp_updL r 0 _) pk_uLs hn3 hzs hq dL_raise_30
  · have hE := (show KO [xIOB, xIAE, xISE] _ from (KO_or (KO_Ix (by decide +kernel)) (KO_or (KO_Arg (by decide +kernel)) (KO_or (KO_Time (by decide +kernel)) (KO_NL (by decide +kernel)))))) E hk
    simp only [List.mem_cons, List.not_mem_nil, or_false] at hE
    rcases hE with rfl | rfl | rfl
    · refine vx_catch (own := RL) (name := xIOB) hown [] (⟨0, 14, 17, 21⟩ : ExceptionTableEntry) [(⟨0, 14, 21, 13⟩ : ExceptionTableEntry), (⟨0, 14, 25, 15⟩ : ExceptionTableEntry)] (by rw [hxt]; rfl) (fun _ h => nomatch h) (by decide) (by decide) (hts (.classLink RL 21 xIOB) (by decide +kernel)) (va_Nw.use rfl (hG2.1.2.1 (.castable xIOB xIOB) (by decide +kernel) rfl)) hce hcv hcl ?_
      refine W.eq (g2 := F0 mZ 17 ls [.ref q]) rfl ?_
      refine lv_astore (lv' := [(6, .ref q), (0, .ref (A 0)), (1, .int i), (2, .int v), (3, .int a), (4, .int b), (5, .ref o)]) hx hb dL_raise_17 hl (by decide) rfl (fun ls hl => ?_)
      refine lv_iconst (v := 1) hx hb dL_raise_19 (by decide) ?_
      exact wl_iretx S hr hlk hk ((congrArg (ecd _) hk).trans eBAS_B) hext hA0 hR (rp_lt hR) ho dL_raise_20
    · refine vx_catch (own := RL) (name := xIAE) hown [(⟨0, 14, 17, 21⟩ : ExceptionTableEntry)] (⟨0, 14, 21, 13⟩ : ExceptionTableEntry) [(⟨0, 14, 25, 15⟩ : ExceptionTableEntry)] (by rw [hxt]; rfl) (List.forall_mem_cons.mpr ⟨Or.inr ⟨by decide, xIOB, hts (.classLink RL 21 xIOB) (by decide +kernel), hN.1⟩, fun _ h => nomatch h⟩) (by decide) (by decide) (hts (.classLink RL 13 xIAE) (by decide +kernel)) (va_Nw.use rfl (hG2.1.2.1 (.castable xIAE xIAE) (by decide +kernel) rfl)) hce hcv hcl ?_
      refine W.eq (g2 := F0 mZ 21 ls [.ref q]) rfl ?_
      refine lv_astore (lv' := [(6, .ref q), (0, .ref (A 0)), (1, .int i), (2, .int v), (3, .int a), (4, .int b), (5, .ref o)]) hx hb dL_raise_21 hl (by decide) rfl (fun ls hl => ?_)
      refine lv_iconst (v := 2) hx hb dL_raise_23 (by decide) ?_
      exact wl_iretx S hr hlk hk ((congrArg (ecd _) hk).trans eBAS_A) hext hA0 hR (rp_lt hR) ho dL_raise_24
    · refine vx_catch (own := RL) (name := xISE) hown [(⟨0, 14, 17, 21⟩ : ExceptionTableEntry), (⟨0, 14, 21, 13⟩ : ExceptionTableEntry)] (⟨0, 14, 25, 15⟩ : ExceptionTableEntry) [] (by rw [hxt]; rfl) (List.forall_mem_cons.mpr ⟨Or.inr ⟨by decide, xIOB, hts (.classLink RL 21 xIOB) (by decide +kernel), hN.2.2⟩, List.forall_mem_cons.mpr ⟨Or.inr ⟨by decide, xIAE, hts (.classLink RL 13 xIAE) (by decide +kernel), hN.2.1⟩, fun _ h => nomatch h⟩⟩) (by decide) (by decide) (hts (.classLink RL 15 xISE) (by decide +kernel)) (va_Nw.use rfl (hG2.1.2.1 (.castable xISE xISE) (by decide +kernel) rfl)) hce hcv hcl ?_
      refine W.eq (g2 := F0 mZ 25 ls [.ref q]) rfl ?_
      refine lv_astore (lv' := [(6, .ref q), (0, .ref (A 0)), (1, .int i), (2, .int v), (3, .int a), (4, .int b), (5, .ref o)]) hx hb dL_raise_25 hl (by decide) rfl (fun ls hl => ?_)
      refine lv_iconst (v := 3) hx hb dL_raise_27 (by decide) ?_
      exact wl_iretx S hr hlk hk ((congrArg (ecd _) hk).trans eBAS_S) hext hA0 hR (rp_lt hR) ho dL_raise_28

theorem nmL_out : nmV yL_out RL 5 := by decide +kernel
set_option maxHeartbeats 1000000 in
set_option maxRecDepth 100000 in
theorem c_L_out (l : Launch) (G : GT) (hlf : l.stackTraces = false) (A : Nat → Nat) (f : Nat → Nat → Int32) (g : Nat → Nat) (H : Heap) (hR : RP G A f g H) (hA : RA G A) (o : Nat) (r : Nat → Int64) (ho : va_at G.1 vwCl (o, oL G r) H) (hoA : ∀ k, rD k → o ≠ A k) (i a b : Int32) : WLV l G A o H yL_out wsL_out { frames := 9, cells := 1, slots := 6, locals := 149 } [.ref (A 0), .int i, .int a, .int b, .ref o] [xIOB, xIAE, xISE] (kOr (koIx i 3) (kOr (koTime g a b) (koNL g))) (nI (g 5)) f g (noAdd f g 1 i 0 a b) (gset g 5 (g 5 + 1)) := by
  refine wl_of (cc := cL_out) (maxL := 6) (ret := some .int) (hh := [(0, 12, 15, 21), (0, 12, 19, 13), (0, 12, 23, 15)]) (by decide) rfl (Nat.le_of_ble_eq_true rfl) ?_
  intro pZ eZ sZ mZ bZ meZ cZ ls S hr hlk hxt hl hHs hG hN
  have S : CallFix pZ mZ cZ cL_out 6 sZ _ wsL_out RL := S
  have hx := S.1
  have hb := S.2.1
  have hown := S.2.2.2.1
  have hts := S.2.2.2.2
  have hl : lv_has ls 6 [(0, .ref (A 0)), (1, .int i), (2, .int a), (3, .int b), (4, .ref o)] := hl
  refine lv_aload hx hb dL_out_0 (lv_at hl 4 rfl) ?_
  refine lv_iconst (v := 0) hx hb dL_out_2 (by decide) ?_
  refine lv_aload_n hx hb dL_out_3 rfl (lv_at hl 0 rfl) ?_
  refine lv_iload_n hx hb dL_out_4 rfl (lv_at hl 1 rfl) ?_
  refine lv_iload_n hx hb dL_out_5 rfl (lv_at hl 2 rfl) ?_
  refine lv_iload_n hx hb dL_out_6 rfl (lv_at hl 3 rfl) ?_
  refine wl_V (As := [.int i, .int a, .int b]) (rest := [.int 0, .ref o]) S hG hA (c_X7_out l G hlf A f g H hR hA i a b) gL_out_X7_out rfl ⟨rfl, rfl⟩ nmX7_out ⟨Nat.le_of_ble_eq_true rfl, Nat.le_of_ble_eq_true rfl⟩ (rd_rcv hG.1 (rP_0 hR) rfl) rfl hl.1 rfl (Nat.le_of_ble_eq_true rfl) ⟨Nat.le_of_ble_eq_true rfl, Nat.le_of_ble_eq_true rfl⟩ dL_out_7 (fun hk H2 locs2 hR2 hch hA0 hG2 => ?_) (fun E H2 locs2 q ce hk hext hA0 hG2 hce hcv hcl => ?_)
  · refine W.eq (g2 := F0 mZ 10 ls [.int (nI (g 5)), .int 0, .ref o]) rfl ?_
    refine lv_i2l (v := (nI (g 5) : Int32).toInt64) hx hb dL_out_10 rfl ?_
    refine wl_last S hG2.1 (va_at.kept ho (hch.2 _ (va_at.lt ho) (fun k hk9 => hoA k hk9))) dL_out_11 (fun H3 z hz hn3 hzs hq => ?_)
    refine lv_goto (tgt := 27) hx hb dL_out_12 (by decide) ?_
    refine lv_iconst (v := 0) hx hb dL_out_27 (by decide) ?_
    exact wl_iret S hr hlk hk hch hA0 hR2 hoA hz (r := vp_updL r 0 _) pk_uLs hn3 hzs hq dL_out_28
  · have hE := (show KO [xIOB, xIAE, xISE] _ from (KO_or (KO_Ix (by decide +kernel)) (KO_or (KO_Time (by decide +kernel)) (KO_NL (by decide +kernel))))) E hk
    simp only [List.mem_cons, List.not_mem_nil, or_false] at hE
    rcases hE with rfl | rfl | rfl
    · refine vx_catch (own := RL) (name := xIOB) hown [] (⟨0, 12, 15, 21⟩ : ExceptionTableEntry) [(⟨0, 12, 19, 13⟩ : ExceptionTableEntry), (⟨0, 12, 23, 15⟩ : ExceptionTableEntry)] (by rw [hxt]; rfl) (fun _ h => nomatch h) (by decide) (by decide) (hts (.classLink RL 21 xIOB) (by decide +kernel)) (va_Nw.use rfl (hG2.1.2.1 (.castable xIOB xIOB) (by decide +kernel) rfl)) hce hcv hcl ?_
      refine W.eq (g2 := F0 mZ 15 ls [.ref q]) rfl ?_
      refine lv_astore (lv' := [(5, .ref q), (0, .ref (A 0)), (1, .int i), (2, .int a), (3, .int b), (4, .ref o)]) hx hb dL_out_15 hl (by decide) rfl (fun ls hl => ?_)
      refine lv_iconst (v := 1) hx hb dL_out_17 (by decide) ?_
      exact wl_iretx S hr hlk hk ((congrArg (ecd _) hk).trans eBAS_B) hext hA0 hR (rp_lt hR) ho dL_out_18
    · refine vx_catch (own := RL) (name := xIAE) hown [(⟨0, 12, 15, 21⟩ : ExceptionTableEntry)] (⟨0, 12, 19, 13⟩ : ExceptionTableEntry) [(⟨0, 12, 23, 15⟩ : ExceptionTableEntry)] (by rw [hxt]; rfl) (List.forall_mem_cons.mpr ⟨Or.inr ⟨by decide, xIOB, hts (.classLink RL 21 xIOB) (by decide +kernel), hN.1⟩, fun _ h => nomatch h⟩) (by decide) (by decide) (hts (.classLink RL 13 xIAE) (by decide +kernel)) (va_Nw.use rfl (hG2.1.2.1 (.castable xIAE xIAE) (by decide +kernel) rfl)) hce hcv hcl ?_
      refine W.eq (g2 := F0 mZ 19 ls [.ref q]) rfl ?_
      refine lv_astore (lv' := [(5, .ref q), (0, .ref (A 0)), (1, .int i), (2, .int a), (3, .int b), (4, .ref o)]) hx hb dL_out_19 hl (by decide) rfl (fun ls hl => ?_)
      refine lv_iconst (v := 2) hx hb dL_out_21 (by decide) ?_
      exact wl_iretx S hr hlk hk ((congrArg (ecd _) hk).trans eBAS_A) hext hA0 hR (rp_lt hR) ho dL_out_22
    · refine vx_catch (own := RL) (name := xISE) hown [(⟨0, 12, 15, 21⟩ : ExceptionTableEntry), (⟨0, 12, 19, 13⟩ : ExceptionTableEntry)] (⟨0, 12, 23, 15⟩ : ExceptionTableEntry) [] (by rw [hxt]; rfl) (List.forall_mem_cons.mpr ⟨Or.inr ⟨by decide, xIOB, hts (.classLink RL 21 xIOB) (by decide +kernel), hN.2.2⟩, List.forall_mem_cons.mpr ⟨Or.inr ⟨by decide, xIAE, hts (.classLink RL 13 xIAE) (by decide +kernel), hN.2.1⟩, fun _ h => nomatch h⟩⟩) (by decide) (by decide) (hts (.classLink RL 15 xISE) (by decide +kernel)) (va_Nw.use rfl (hG2.1.2.1 (.castable xISE xISE) (by decide +kernel) rfl)) hce hcv hcl ?_
      refine W.eq (g2 := F0 mZ 23 ls [.ref q]) rfl ?_
      refine lv_astore (lv' := [(5, .ref q), (0, .ref (A 0)), (1, .int i), (2, .int a), (3, .int b), (4, .ref o)]) hx hb dL_out_23 hl (by decide) rfl (fun ls hl => ?_)
      refine lv_iconst (v := 3) hx hb dL_out_25 (by decide) ?_
      exact wl_iretx S hr hlk hk ((congrArg (ecd _) hk).trans eBAS_S) hext hA0 hR (rp_lt hR) ho dL_out_26

theorem nmL_close : nmV yL_close RL 5 := by decide +kernel
set_option maxHeartbeats 1000000 in
set_option maxRecDepth 100000 in
theorem c_L_close (l : Launch) (G : GT) (hlf : l.stackTraces = false) (A : Nat → Nat) (f : Nat → Nat → Int32) (g : Nat → Nat) (H : Heap) (hR : RP G A f g H) (hA : RA G A) (o : Nat) (r : Nat → Int64) (ho : va_at G.1 vwCl (o, oL G r) H) (hoA : ∀ k, rD k → o ≠ A k) (i a b : Int32) : WLV l G A o H yL_close wsL_close { frames := 9, cells := 1, slots := 6, locals := 149 } [.ref (A 0), .int i, .int a, .int b, .ref o] [xIOB, xIAE, xISE] (kOr (koIx i (g 3)) (kOr (koTime g a b) (koNL g))) (nI (g 5)) f g (noAdd f g 2 i 0 a b) (gset g 5 (g 5 + 1)) := by
  refine wl_of (cc := cL_close) (maxL := 6) (ret := some .int) (hh := [(0, 12, 15, 21), (0, 12, 19, 13), (0, 12, 23, 15)]) (by decide) rfl (Nat.le_of_ble_eq_true rfl) ?_
  intro pZ eZ sZ mZ bZ meZ cZ ls S hr hlk hxt hl hHs hG hN
  have S : CallFix pZ mZ cZ cL_close 6 sZ _ wsL_close RL := S
  have hx := S.1
  have hb := S.2.1
  have hown := S.2.2.2.1
  have hts := S.2.2.2.2
  have hl : lv_has ls 6 [(0, .ref (A 0)), (1, .int i), (2, .int a), (3, .int b), (4, .ref o)] := hl
  refine lv_aload hx hb dL_close_0 (lv_at hl 4 rfl) ?_
  refine lv_iconst (v := 0) hx hb dL_close_2 (by decide) ?_
  refine lv_aload_n hx hb dL_close_3 rfl (lv_at hl 0 rfl) ?_
  refine lv_iload_n hx hb dL_close_4 rfl (lv_at hl 1 rfl) ?_
  refine lv_iload_n hx hb dL_close_5 rfl (lv_at hl 2 rfl) ?_
  refine lv_iload_n hx hb dL_close_6 rfl (lv_at hl 3 rfl) ?_
  refine wl_V (As := [.int i, .int a, .int b]) (rest := [.int 0, .ref o]) S hG hA (c_X7_close l G hlf A f g H hR hA i a b) gL_close_X7_close rfl ⟨rfl, rfl⟩ nmX7_close ⟨Nat.le_of_ble_eq_true rfl, Nat.le_of_ble_eq_true rfl⟩ (rd_rcv hG.1 (rP_0 hR) rfl) rfl hl.1 rfl (Nat.le_of_ble_eq_true rfl) ⟨Nat.le_of_ble_eq_true rfl, Nat.le_of_ble_eq_true rfl⟩ dL_close_7 (fun hk H2 locs2 hR2 hch hA0 hG2 => ?_) (fun E H2 locs2 q ce hk hext hA0 hG2 hce hcv hcl => ?_)
  · refine W.eq (g2 := F0 mZ 10 ls [.int (nI (g 5)), .int 0, .ref o]) rfl ?_
    refine lv_i2l (v := (nI (g 5) : Int32).toInt64) hx hb dL_close_10 rfl ?_
    refine wl_last S hG2.1 (va_at.kept ho (hch.2 _ (va_at.lt ho) (fun k hk9 => hoA k hk9))) dL_close_11 (fun H3 z hz hn3 hzs hq => ?_)
    refine lv_goto (tgt := 27) hx hb dL_close_12 (by decide) ?_
    refine lv_iconst (v := 0) hx hb dL_close_27 (by decide) ?_
    exact wl_iret S hr hlk hk hch hA0 hR2 hoA hz (r := vp_updL r 0 _) pk_uLs hn3 hzs hq dL_close_28
  · have hE := (show KO [xIOB, xIAE, xISE] _ from (KO_or (KO_Ix (by decide +kernel)) (KO_or (KO_Time (by decide +kernel)) (KO_NL (by decide +kernel))))) E hk
    simp only [List.mem_cons, List.not_mem_nil, or_false] at hE
    rcases hE with rfl | rfl | rfl
    · refine vx_catch (own := RL) (name := xIOB) hown [] (⟨0, 12, 15, 21⟩ : ExceptionTableEntry) [(⟨0, 12, 19, 13⟩ : ExceptionTableEntry), (⟨0, 12, 23, 15⟩ : ExceptionTableEntry)] (by rw [hxt]; rfl) (fun _ h => nomatch h) (by decide) (by decide) (hts (.classLink RL 21 xIOB) (by decide +kernel)) (va_Nw.use rfl (hG2.1.2.1 (.castable xIOB xIOB) (by decide +kernel) rfl)) hce hcv hcl ?_
      refine W.eq (g2 := F0 mZ 15 ls [.ref q]) rfl ?_
      refine lv_astore (lv' := [(5, .ref q), (0, .ref (A 0)), (1, .int i), (2, .int a), (3, .int b), (4, .ref o)]) hx hb dL_close_15 hl (by decide) rfl (fun ls hl => ?_)
      refine lv_iconst (v := 1) hx hb dL_close_17 (by decide) ?_
      exact wl_iretx S hr hlk hk ((congrArg (ecd _) hk).trans eBAS_B) hext hA0 hR (rp_lt hR) ho dL_close_18
    · refine vx_catch (own := RL) (name := xIAE) hown [(⟨0, 12, 15, 21⟩ : ExceptionTableEntry)] (⟨0, 12, 19, 13⟩ : ExceptionTableEntry) [(⟨0, 12, 23, 15⟩ : ExceptionTableEntry)] (by rw [hxt]; rfl) (List.forall_mem_cons.mpr ⟨Or.inr ⟨by decide, xIOB, hts (.classLink RL 21 xIOB) (by decide +kernel), hN.1⟩, fun _ h => nomatch h⟩) (by decide) (by decide) (hts (.classLink RL 13 xIAE) (by decide +kernel)) (va_Nw.use rfl (hG2.1.2.1 (.castable xIAE xIAE) (by decide +kernel) rfl)) hce hcv hcl ?_
      refine W.eq (g2 := F0 mZ 19 ls [.ref q]) rfl ?_
      refine lv_astore (lv' := [(5, .ref q), (0, .ref (A 0)), (1, .int i), (2, .int a), (3, .int b), (4, .ref o)]) hx hb dL_close_19 hl (by decide) rfl (fun ls hl => ?_)
      refine lv_iconst (v := 2) hx hb dL_close_21 (by decide) ?_
      exact wl_iretx S hr hlk hk ((congrArg (ecd _) hk).trans eBAS_A) hext hA0 hR (rp_lt hR) ho dL_close_22
    · refine vx_catch (own := RL) (name := xISE) hown [(⟨0, 12, 15, 21⟩ : ExceptionTableEntry), (⟨0, 12, 19, 13⟩ : ExceptionTableEntry)] (⟨0, 12, 23, 15⟩ : ExceptionTableEntry) [] (by rw [hxt]; rfl) (List.forall_mem_cons.mpr ⟨Or.inr ⟨by decide, xIOB, hts (.classLink RL 21 xIOB) (by decide +kernel), hN.2.2⟩, List.forall_mem_cons.mpr ⟨Or.inr ⟨by decide, xIAE, hts (.classLink RL 13 xIAE) (by decide +kernel), hN.2.1⟩, fun _ h => nomatch h⟩⟩) (by decide) (by decide) (hts (.classLink RL 15 xISE) (by decide +kernel)) (va_Nw.use rfl (hG2.1.2.1 (.castable xISE xISE) (by decide +kernel) rfl)) hce hcv hcl ?_
      refine W.eq (g2 := F0 mZ 23 ls [.ref q]) rfl ?_
      refine lv_astore (lv' := [(5, .ref q), (0, .ref (A 0)), (1, .int i), (2, .int a), (3, .int b), (4, .ref o)]) hx hb dL_close_23 hl (by decide) rfl (fun ls hl => ?_)
      refine lv_iconst (v := 3) hx hb dL_close_25 (by decide) ?_
      exact wl_iretx S hr hlk hk ((congrArg (ecd _) hk).trans eBAS_S) hext hA0 hR (rp_lt hR) ho dL_close_26

theorem nmL_cancel : nmV yL_cancel RL 3 := by decide +kernel
set_option maxHeartbeats 1000000 in
set_option maxRecDepth 100000 in
theorem c_L_cancel (l : Launch) (G : GT) (hlf : l.stackTraces = false) (A : Nat → Nat) (f : Nat → Nat → Int32) (g : Nat → Nat) (H : Heap) (hR : RP G A f g H) (hA : RA G A) (o : Nat) (r : Nat → Int64) (ho : va_at G.1 vwCl (o, oL G r) H) (hoA : ∀ k, rD k → o ≠ A k) (i : Int32) : WLV l G A o H yL_cancel wsL_cancel { frames := 8, cells := 1, slots := 6, locals := 124 } [.ref (A 0), .int i, .ref o] [xIOB, xISE] (kOr (koIx i (g 5)) (kOr (if rowAt 16 (f 22) i = 3 then some xISE else none) (koNL g))) (nI (g 5)) f g (caAdd f g i (nI (g 0))) (gset g 5 (g 5 + 1)) := by
  refine wl_of (cc := cL_cancel) (maxL := 4) (ret := some .int) (hh := [(0, 9, 12, 21), (0, 9, 15, 15)]) (by decide) rfl (Nat.le_of_ble_eq_true rfl) ?_
  intro pZ eZ sZ mZ bZ meZ cZ ls S hr hlk hxt hl hHs hG hN
  have S : CallFix pZ mZ cZ cL_cancel 4 sZ _ wsL_cancel RL := S
  have hx := S.1
  have hb := S.2.1
  have hown := S.2.2.2.1
  have hts := S.2.2.2.2
  have hl : lv_has ls 4 [(0, .ref (A 0)), (1, .int i), (2, .ref o)] := hl
  refine lv_aload_n hx hb dL_cancel_0 rfl (lv_at hl 2 rfl) ?_
  refine lv_iconst (v := 0) hx hb dL_cancel_1 (by decide) ?_
  refine lv_aload_n hx hb dL_cancel_2 rfl (lv_at hl 0 rfl) ?_
  refine lv_iload_n hx hb dL_cancel_3 rfl (lv_at hl 1 rfl) ?_
  refine wl_V (As := [.int i]) (rest := [.int 0, .ref o]) S hG hA (c_X7_cancel l G hlf A f g H hR hA i) gL_cancel_X7_cancel rfl ⟨rfl, rfl⟩ nmX7_cancel ⟨Nat.le_of_ble_eq_true rfl, Nat.le_of_ble_eq_true rfl⟩ (rd_rcv hG.1 (rP_0 hR) rfl) rfl hl.1 rfl (Nat.le_of_ble_eq_true rfl) ⟨Nat.le_of_ble_eq_true rfl, Nat.le_of_ble_eq_true rfl⟩ dL_cancel_4 (fun hk H2 locs2 hR2 hch hA0 hG2 => ?_) (fun E H2 locs2 q ce hk hext hA0 hG2 hce hcv hcl => ?_)
  · refine W.eq (g2 := F0 mZ 7 ls [.int (nI (g 5)), .int 0, .ref o]) rfl ?_
    refine lv_i2l (v := (nI (g 5) : Int32).toInt64) hx hb dL_cancel_7 rfl ?_
    refine wl_last S hG2.1 (va_at.kept ho (hch.2 _ (va_at.lt ho) (fun k hk9 => hoA k hk9))) dL_cancel_8 (fun H3 z hz hn3 hzs hq => ?_)
    refine lv_goto (tgt := 18) hx hb dL_cancel_9 (by decide) ?_
    refine lv_iconst (v := 0) hx hb dL_cancel_18 (by decide) ?_
    exact wl_iret S hr hlk hk hch hA0 hR2 hoA hz (r := vp_updL r 0 _) pk_uLs hn3 hzs hq dL_cancel_19
  · have hE := (show KO [xIOB, xISE] _ from (KO_or (KO_Ix (by decide +kernel)) (KO_or (KO_if (by decide +kernel)) (KO_NL (by decide +kernel))))) E hk
    simp only [List.mem_cons, List.not_mem_nil, or_false] at hE
    rcases hE with rfl | rfl
    · refine vx_catch (own := RL) (name := xIOB) hown [] (⟨0, 9, 12, 21⟩ : ExceptionTableEntry) [(⟨0, 9, 15, 15⟩ : ExceptionTableEntry)] (by rw [hxt]; rfl) (fun _ h => nomatch h) (by decide) (by decide) (hts (.classLink RL 21 xIOB) (by decide +kernel)) (va_Nw.use rfl (hG2.1.2.1 (.castable xIOB xIOB) (by decide +kernel) rfl)) hce hcv hcl ?_
      refine W.eq (g2 := F0 mZ 12 ls [.ref q]) rfl ?_
      refine lv_astore_n (lv' := [(3, .ref q), (0, .ref (A 0)), (1, .int i), (2, .ref o)]) hx hb dL_cancel_12 rfl hl (by decide) rfl (fun ls hl => ?_)
      refine lv_iconst (v := 1) hx hb dL_cancel_13 (by decide) ?_
      exact wl_iretx S hr hlk hk ((congrArg (ecd _) hk).trans eBS_B) hext hA0 hR (rp_lt hR) ho dL_cancel_14
    · refine vx_catch (own := RL) (name := xISE) hown [(⟨0, 9, 12, 21⟩ : ExceptionTableEntry)] (⟨0, 9, 15, 15⟩ : ExceptionTableEntry) [] (by rw [hxt]; rfl) (List.forall_mem_cons.mpr ⟨Or.inr ⟨by decide, xIOB, hts (.classLink RL 21 xIOB) (by decide +kernel), hN.2.2⟩, fun _ h => nomatch h⟩) (by decide) (by decide) (hts (.classLink RL 15 xISE) (by decide +kernel)) (va_Nw.use rfl (hG2.1.2.1 (.castable xISE xISE) (by decide +kernel) rfl)) hce hcv hcl ?_
      refine W.eq (g2 := F0 mZ 15 ls [.ref q]) rfl ?_
      refine lv_astore_n (lv' := [(3, .ref q), (0, .ref (A 0)), (1, .int i), (2, .ref o)]) hx hb dL_cancel_15 rfl hl (by decide) rfl (fun ls hl => ?_)
      refine lv_iconst (v := 2) hx hb dL_cancel_16 (by decide) ?_
      exact wl_iretx S hr hlk hk ((congrArg (ecd _) hk).trans eBS_S) hext hA0 hR (rp_lt hR) ho dL_cancel_17

theorem nmL_load : nmV yL_load RL 3 := by decide +kernel
set_option maxHeartbeats 1000000 in
set_option maxRecDepth 100000 in
theorem c_L_load (l : Launch) (G : GT) (hlf : l.stackTraces = false) (A : Nat → Nat) (f : Nat → Nat → Int32) (g : Nat → Nat) (H : Heap) (hR : RP G A f g H) (hA : RA G A) (o : Nat) (r : Nat → Int64) (ho : va_at G.1 vwCl (o, oL G r) H) (hoA : ∀ k, rD k → o ≠ A k) (cr : Int32) : WLV l G A o H yL_load wsL_load { frames := 8, cells := 1, slots := 6, locals := 124 } [.ref (A 0), .int cr, .ref o] [xIOB] (koIx cr 4) (rowAt 4 (f 28) cr) f g (rowPut f 28 cr (nI (g 0))) (g) := by
  refine wl_of (cc := cL_load) (maxL := 4) (ret := some .int) (hh := [(0, 9, 12, 21)]) (by decide) rfl (Nat.le_of_ble_eq_true rfl) ?_
  intro pZ eZ sZ mZ bZ meZ cZ ls S hr hlk hxt hl hHs hG hN
  have S : CallFix pZ mZ cZ cL_load 4 sZ _ wsL_load RL := S
  have hx := S.1
  have hb := S.2.1
  have hown := S.2.2.2.1
  have hts := S.2.2.2.2
  have hl : lv_has ls 4 [(0, .ref (A 0)), (1, .int cr), (2, .ref o)] := hl
  refine lv_aload_n hx hb dL_load_0 rfl (lv_at hl 2 rfl) ?_
  refine lv_iconst (v := 0) hx hb dL_load_1 (by decide) ?_
  refine lv_aload_n hx hb dL_load_2 rfl (lv_at hl 0 rfl) ?_
  refine lv_iload_n hx hb dL_load_3 rfl (lv_at hl 1 rfl) ?_
  refine wl_V (As := [.int cr]) (rest := [.int 0, .ref o]) S hG hA (c_X7_load l G hlf A f g H hR hA cr) gL_load_X7_load rfl ⟨rfl, rfl⟩ nmX7_load ⟨Nat.le_of_ble_eq_true rfl, Nat.le_of_ble_eq_true rfl⟩ (rd_rcv hG.1 (rP_0 hR) rfl) rfl hl.1 rfl (Nat.le_of_ble_eq_true rfl) ⟨Nat.le_of_ble_eq_true rfl, Nat.le_of_ble_eq_true rfl⟩ dL_load_4 (fun hk H2 locs2 hR2 hch hA0 hG2 => ?_) (fun E H2 locs2 q ce hk hext hA0 hG2 hce hcv hcl => ?_)
  · refine W.eq (g2 := F0 mZ 7 ls [.int (rowAt 4 (f 28) cr), .int 0, .ref o]) rfl ?_
    refine lv_i2l (v := (rowAt 4 (f 28) cr : Int32).toInt64) hx hb dL_load_7 rfl ?_
    refine wl_last S hG2.1 (va_at.kept ho (hch.2 _ (va_at.lt ho) (fun k hk9 => hoA k hk9))) dL_load_8 (fun H3 z hz hn3 hzs hq => ?_)
    refine lv_goto (tgt := 15) hx hb dL_load_9 (by decide) ?_
    refine lv_iconst (v := 0) hx hb dL_load_15 (by decide) ?_
    exact wl_iret S hr hlk hk hch hA0 hR2 hoA hz (r := vp_updL r 0 _) pk_uLs hn3 hzs hq dL_load_16
  · have hE := (show KO [xIOB] _ from (KO_Ix (by decide +kernel))) E hk
    rw [List.mem_singleton] at hE; subst hE
    refine vx_catch (own := RL) (name := xIOB) hown [] (⟨0, 9, 12, 21⟩ : ExceptionTableEntry) [] (by rw [hxt]; rfl) (fun _ h => nomatch h) (by decide) (by decide) (hts (.classLink RL 21 xIOB) (by decide +kernel)) (va_Nw.use rfl (hG2.1.2.1 (.castable xIOB xIOB) (by decide +kernel) rfl)) hce hcv hcl ?_
    refine W.eq (g2 := F0 mZ 12 ls [.ref q]) rfl ?_
    refine lv_astore_n (lv' := [(3, .ref q), (0, .ref (A 0)), (1, .int cr), (2, .ref o)]) hx hb dL_load_12 rfl hl (by decide) rfl (fun ls hl => ?_)
    refine lv_iconst (v := 1) hx hb dL_load_13 (by decide) ?_
    exact wl_iretx S hr hlk hk ((congrArg (ecd _) hk).trans eB_B) hext hA0 hR (rp_lt hR) ho dL_load_14

theorem nmL_read : nmV yL_read RL 3 := by decide +kernel
set_option maxHeartbeats 1000000 in
set_option maxRecDepth 100000 in
theorem c_L_read (l : Launch) (G : GT) (hlf : l.stackTraces = false) (A : Nat → Nat) (f : Nat → Nat → Int32) (g : Nat → Nat) (H : Heap) (hR : RP G A f g H) (hA : RA G A) (o : Nat) (r : Nat → Int64) (ho : va_at G.1 vwCl (o, oL G r) H) (hoA : ∀ k, rD k → o ≠ A k) (cr : Int32) : WLV l G A o H yL_read wsL_read { frames := 8, cells := 1, slots := 6, locals := 124 } [.ref (A 0), .int cr, .ref o] [xIOB] (koIx cr 4) (nI (g 5) - rowAt 4 (f 29) cr) f g (rowPut f 29 cr (nI (g 5))) (g) := by
  refine wl_of (cc := cL_read) (maxL := 4) (ret := some .int) (hh := [(0, 9, 12, 21)]) (by decide) rfl (Nat.le_of_ble_eq_true rfl) ?_
  intro pZ eZ sZ mZ bZ meZ cZ ls S hr hlk hxt hl hHs hG hN
  have S : CallFix pZ mZ cZ cL_read 4 sZ _ wsL_read RL := S
  have hx := S.1
  have hb := S.2.1
  have hown := S.2.2.2.1
  have hts := S.2.2.2.2
  have hl : lv_has ls 4 [(0, .ref (A 0)), (1, .int cr), (2, .ref o)] := hl
  refine lv_aload_n hx hb dL_read_0 rfl (lv_at hl 2 rfl) ?_
  refine lv_iconst (v := 0) hx hb dL_read_1 (by decide) ?_
  refine lv_aload_n hx hb dL_read_2 rfl (lv_at hl 0 rfl) ?_
  refine lv_iload_n hx hb dL_read_3 rfl (lv_at hl 1 rfl) ?_
  refine wl_V (As := [.int cr]) (rest := [.int 0, .ref o]) S hG hA (c_X7_read l G hlf A f g H hR hA cr) gL_read_X7_read rfl ⟨rfl, rfl⟩ nmX7_read ⟨Nat.le_of_ble_eq_true rfl, Nat.le_of_ble_eq_true rfl⟩ (rd_rcv hG.1 (rP_0 hR) rfl) rfl hl.1 rfl (Nat.le_of_ble_eq_true rfl) ⟨Nat.le_of_ble_eq_true rfl, Nat.le_of_ble_eq_true rfl⟩ dL_read_4 (fun hk H2 locs2 hR2 hch hA0 hG2 => ?_) (fun E H2 locs2 q ce hk hext hA0 hG2 hce hcv hcl => ?_)
  · refine W.eq (g2 := F0 mZ 7 ls [.int (nI (g 5) - rowAt 4 (f 29) cr), .int 0, .ref o]) rfl ?_
    refine lv_i2l (v := (nI (g 5) - rowAt 4 (f 29) cr : Int32).toInt64) hx hb dL_read_7 rfl ?_
    refine wl_last S hG2.1 (va_at.kept ho (hch.2 _ (va_at.lt ho) (fun k hk9 => hoA k hk9))) dL_read_8 (fun H3 z hz hn3 hzs hq => ?_)
    refine lv_goto (tgt := 15) hx hb dL_read_9 (by decide) ?_
    refine lv_iconst (v := 0) hx hb dL_read_15 (by decide) ?_
    exact wl_iret S hr hlk hk hch hA0 hR2 hoA hz (r := vp_updL r 0 _) pk_uLs hn3 hzs hq dL_read_16
  · have hE := (show KO [xIOB] _ from (KO_Ix (by decide +kernel))) E hk
    rw [List.mem_singleton] at hE; subst hE
    refine vx_catch (own := RL) (name := xIOB) hown [] (⟨0, 9, 12, 21⟩ : ExceptionTableEntry) [] (by rw [hxt]; rfl) (fun _ h => nomatch h) (by decide) (by decide) (hts (.classLink RL 21 xIOB) (by decide +kernel)) (va_Nw.use rfl (hG2.1.2.1 (.castable xIOB xIOB) (by decide +kernel) rfl)) hce hcv hcl ?_
    refine W.eq (g2 := F0 mZ 12 ls [.ref q]) rfl ?_
    refine lv_astore_n (lv' := [(3, .ref q), (0, .ref (A 0)), (1, .int cr), (2, .ref o)]) hx hb dL_read_12 rfl hl (by decide) rfl (fun ls hl => ?_)
    refine lv_iconst (v := 1) hx hb dL_read_13 (by decide) ?_
    exact wl_iretx S hr hlk hk ((congrArg (ecd _) hk).trans eB_B) hext hA0 hR (rp_lt hR) ho dL_read_14
