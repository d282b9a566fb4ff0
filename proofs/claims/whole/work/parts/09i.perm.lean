theorem nmX11_many : nmV yX11_many RX11 1 := by decide +kernel

set_option maxHeartbeats 1000000 in
set_option maxRecDepth 100000 in
theorem c_X11_many (l : Launch) (G : GT) (B : Nat → Nat) (th : Int32) (mc : Nat → Int32) (cp : Nat → Nat) (f : Nat → Nat → Int32) (g : Nat → Nat) (H : Heap) (hM : MP G B th mc cp f g H) (D : Nat → Prop) (hD : DP G D H.size) (hB : DB D B cp g) (w : Int32) : MwV l G D H yX11_many wsX11_many { frames := 8, cells := 1, slots := 9, locals := 190 } [.ref (B 0), .int w] 1 9 (fun v t => ∃ mt : Int32, mt = tw1 (¬ inB w 0 19 = true) ∧ v = some (.int (if mt = 0 then mMa f g (cnt w) else 0)) ∧ MP G B mt mc cp f g t) := by
  refine mw_of (cc := cX11_many) (maxL := 2) (ret := (some .int)) (by decide) rfl (Nat.le_of_ble_eq_true rfl) ?_
  intro pZ eZ sZ mZ bZ meZ cZ ls S hr hlk hl hHs hG hGX
  have S : CallFix pZ mZ cZ cX11_many 2 sZ _ wsX11_many RX11 := S
  have hx := S.1
  have hb := S.2.1
  have hown := S.2.2.2.1
  have hts := S.2.2.2.2
  have hl : lv_has ls 2 [(0, .ref (B 0)), (1, .int w)] := hl
  have hS : va_S D H H [] := va_S.rf
  have hI := hM.1
  have hgb := hI.1.1
  have hg0 := hI.1.2.1
  have hg1 := hI.1.2.2.1
  have hg3 := hI.1.2.2.2.1
  have hg4 := hI.1.2.2.2.2.1
  have hg5 := hI.1.2.2.2.2.2
  refine lv_aload_n hx hb dX11_many_0 rfl (lv_at hl 0 rfl) ?_
  refine lv_iload_n hx hb dX11_many_1 rfl (lv_at hl 1 rfl) ?_
  refine lv_iconst (v := 0) hx hb dX11_many_2 (by decide) ?_
  refine lv_bipush (v := 19) hx hb dX11_many_3 (by decide) ?_
  refine rd_S (As := [.int w, .int 0, .int 19]) (rest := [.ref (B 0)]) (v := some (.int (b2i (inB w 0 19 = true)))) S hG (c_X11_isIn l G H w 0 19) gX11_many_X11_isIn rfl ⟨rfl, rfl⟩ nmX11_isIn ⟨Nat.le_of_ble_eq_true rfl, Nat.le_of_ble_eq_true rfl⟩ rfl hl.1 rfl (Nat.le_of_ble_eq_true rfl) ⟨by show 0 ≤ 1; omega, by show 0 ≤ 9; omega⟩ dX11_many_5 ?_
  refine W.eq (g2 := F0 mZ 8 ls [.int (b2i (inB w 0 19 = true)), .ref (B 0)]) rfl ?_
  refine lv_if_ne (tgt := 15) hx hb dX11_many_8 (by decide) (fun c1 => ?_) (fun c1 => ?_)
  · have c1 := b2i_nz.mp c1
    refine lv_iconst (v := 0) hx hb dX11_many_15 (by decide) ?_
    refine lv_iconst (v := 1) hx hb dX11_many_16 (by decide) ?_
    refine mw_V (As := [.int 0, .int 1]) (rest := []) S hD hGX hG hS (c_X11_start l G B th mc cp f g H hM D (dp_le hD hS.1) hB (False) inferInstance 1 (by decide)) (fun _ h => h) gX11_many_X11_start rfl ⟨rfl, rfl⟩ nmX11_start ⟨Nat.le_of_ble_eq_true rfl, Nat.le_of_ble_eq_true rfl⟩ (rd_rcv hG.1 (mP_0 hM) rfl) rfl hl.1 rfl (Nat.le_of_ble_eq_true rfl) ⟨by show 0 + 0 ≤ 1; omega, by show 0 + 0 ≤ 9; omega⟩ dX11_many_17 (fun H2 locs2 v2 hS2 hs2 hP2 hG2 => ?_)
    obtain ⟨hv2, hM2⟩ := hP2.2 not_false
    subst hv2
    refine W.eq (g2 := F0 mZ 20 ls [.int 0]) rfl ?_
    refine lv_if_eq (tgt := 27) hx hb dX11_many_20 (by decide) (fun _ => ?_) (fun c => absurd (by decide) c)
    obtain ⟨kw, hkw, rfl⟩ := inB_c (n := 19) (by decide) c1
    refine lv_aload_n hx hb dX11_many_27 rfl (lv_at hl 0 rfl) ?_
    refine lv_iload_n hx hb dX11_many_28 rfl (lv_at hl 1 rfl) ?_
    refine mw_V (As := [.int (nI kw)]) (rest := []) S hD hGX hG2 hS2 (c_X11_manyNow l G B 0 mc cp f g H2 hM2 (Nat.le_trans (hD.2 _ (hD.1 _ (Nat.le_refl _))) hS2.1) kw (by omega)) (fun q h => hD.1 q (Nat.le_trans hS2.1 h)) gX11_many_X11_manyNow rfl ⟨rfl, rfl⟩ nmX11_manyNow ⟨Nat.le_of_ble_eq_true rfl, Nat.le_of_ble_eq_true rfl⟩ (rd_rcv hG2.1 (mP_0 hM2) rfl) rfl hl.1 rfl (Nat.le_of_ble_eq_true rfl) ⟨by show 0 + 1 ≤ 1; omega, by show 0 + 9 ≤ 9; omega⟩ dX11_many_29 (fun H3 locs3 v3 hS3 hs3 hP3 hG3 => ?_)
    obtain ⟨hv3, hx3⟩ := hP3
    subst hv3
    have hM3 := mp_ext hM2 hx3
    refine W.eq (g2 := F0 mZ 32 ls [.int (mMa f g kw)]) rfl ?_
    exact mw_iret S hr hlk hS3 ⟨by show 1 ≤ 1; omega, by show 9 ≤ 9; omega⟩ dX11_many_32 ⟨0, (by simp [tw2, tw1, c1]), congrArg (fun z => some (Value.int z)) (by first | (rw [if_pos rfl]; done) | rw [if_pos rfl]; first | (rw [cnt_nI (by omega)]; done) | (rw [cnt_nI (by omega), cnt_nI (by omega)]; done) | rfl | (simp [c1]; done)), hM3⟩
  · have c1 := b2i_z.mp c1
    refine lv_iconst (v := 1) hx hb dX11_many_11 (by decide) ?_
    refine lv_goto (tgt := 16) hx hb dX11_many_12 (by decide) ?_
    refine lv_iconst (v := 1) hx hb dX11_many_16 (by decide) ?_
    refine mw_V (As := [.int 1, .int 1]) (rest := []) S hD hGX hG hS (c_X11_start l G B th mc cp f g H hM D (dp_le hD hS.1) hB (True) inferInstance 1 (by decide)) (fun _ h => h) gX11_many_X11_start rfl ⟨rfl, rfl⟩ nmX11_start ⟨Nat.le_of_ble_eq_true rfl, Nat.le_of_ble_eq_true rfl⟩ (rd_rcv hG.1 (mP_0 hM) rfl) rfl hl.1 rfl (Nat.le_of_ble_eq_true rfl) ⟨by show 0 + 0 ≤ 1; omega, by show 0 + 0 ≤ 9; omega⟩ dX11_many_17 (fun H4 locs4 v4 hS4 hs4 hP4 hG4 => ?_)
    obtain ⟨hv4, hM4⟩ := hP4.1 trivial
    subst hv4
    refine W.eq (g2 := F0 mZ 20 ls [.int 1]) rfl ?_
    refine lv_if_eq (tgt := 27) hx hb dX11_many_20 (by decide) (fun c => absurd c (by decide)) (fun _ => ?_)
    refine lv_iconst (v := 0) hx hb dX11_many_23 (by decide) ?_
    refine lv_goto (tgt := 32) hx hb dX11_many_24 (by decide) ?_
    exact mw_iret S hr hlk hS4 ⟨by show 0 ≤ 1; omega, by show 0 ≤ 9; omega⟩ dX11_many_32 ⟨1, (by simp [tw2, tw1, c1]), congrArg (fun z => some (Value.int z)) (by exact (if_neg (by decide)).symm), hM4⟩

theorem nmX11_permit : nmV yX11_permit RX11 5 := by decide +kernel

set_option maxHeartbeats 1000000 in
set_option maxRecDepth 100000 in
theorem c_X11_permit (l : Launch) (G : GT) (B : Nat → Nat) (th : Int32) (mc : Nat → Int32) (cp : Nat → Nat) (f : Nat → Nat → Int32) (g : Nat → Nat) (H : Heap) (hM : MP G B th mc cp f g H) (D : Nat → Prop) (hD : DP G D H.size) (hB : DB D B cp g) (x y t a b : Int32) : MwV l G D H yX11_permit wsX11_permit { frames := 8, cells := 6, slots := 1609, locals := 190 } [.ref (B 0), .int x, .int y, .int t, .int a, .int b] 6 1609 (fun v u => ∃ mt : Int32, mt = tw1 (mNP x y a b = true ∨ ¬ inB t 0 999 = true) ∧ v = some (.int (if mt = 0 then mHa f g x y t a b (mSa f g a b) else 0)) ∧ MP G B mt mc cp f g u) := by
  refine mw_of (cc := cX11_permit) (maxL := 6) (ret := (some .int)) (by decide) rfl (Nat.le_of_ble_eq_true rfl) ?_
  intro pZ eZ sZ mZ bZ meZ cZ ls S hr hlk hl hHs hG hGX
  have S : CallFix pZ mZ cZ cX11_permit 6 sZ _ wsX11_permit RX11 := S
  have hx := S.1
  have hb := S.2.1
  have hown := S.2.2.2.1
  have hts := S.2.2.2.2
  have hl : lv_has ls 6 [(0, .ref (B 0)), (1, .int x), (2, .int y), (3, .int t), (4, .int a), (5, .int b)] := hl
  have w0 := hts (.classLink RX11 75 RX9) (by decide +kernel)
  have w1 := hts (.instantiable RX9 5) (by decide +kernel)
  have w2 := hts (.initialized RX9) (by decide +kernel)
  have w3 := hts (.methodLink RX11 145 yX9_init) (by decide +kernel)
  have w4 := hts (.instanceMethod yX9_init) (by decide +kernel)
  have iX9 : ∀ w ∈ u_ws RX9 TX9 5, w ∈ wsX11_permit := by decide +kernel
  have hS : va_S D H H [] := va_S.rf
  have hI := hM.1
  have hgb := hI.1.1
  have hg0 := hI.1.2.1
  have hg1 := hI.1.2.2.1
  have hg3 := hI.1.2.2.2.1
  have hg4 := hI.1.2.2.2.2.1
  have hg5 := hI.1.2.2.2.2.2
  refine lv_aload_n hx hb dX11_permit_0 rfl (lv_at hl 0 rfl) ?_
  refine lv_iload_n hx hb dX11_permit_1 rfl (lv_at hl 1 rfl) ?_
  refine lv_iload_n hx hb dX11_permit_2 rfl (lv_at hl 2 rfl) ?_
  refine lv_iload hx hb dX11_permit_3 (lv_at hl 4 rfl) ?_
  refine lv_iload hx hb dX11_permit_5 (lv_at hl 5 rfl) ?_
  refine rd_S (As := [.int x, .int y, .int a, .int b]) (rest := [.ref (B 0)]) (v := some (.int (b2i (mNP x y a b = true)))) S hG (c_X11_isNoPlace l G H x y a b) gX11_permit_X11_isNoPlace rfl ⟨rfl, rfl⟩ nmX11_isNoPlace ⟨Nat.le_of_ble_eq_true rfl, Nat.le_of_ble_eq_true rfl⟩ rfl hl.1 rfl (Nat.le_of_ble_eq_true rfl) ⟨by show 0 ≤ 6; omega, by show 0 ≤ 1609; omega⟩ dX11_permit_7 ?_
  refine W.eq (g2 := F0 mZ 10 ls [.int (b2i (mNP x y a b = true)), .ref (B 0)]) rfl ?_
  refine lv_if_ne (tgt := 24) hx hb dX11_permit_10 (by decide) (fun c1 => ?_) (fun c1 => ?_)
  · have c1 := b2i_nz.mp c1
    refine lv_iconst (v := 1) hx hb dX11_permit_24 (by decide) ?_
    refine lv_goto (tgt := 29) hx hb dX11_permit_25 (by decide) ?_
    refine lv_iconst (v := 1) hx hb dX11_permit_29 (by decide) ?_
    refine mw_V (As := [.int 1, .int 1]) (rest := []) S hD hGX hG hS (c_X11_start l G B th mc cp f g H hM D (dp_le hD hS.1) hB (True) inferInstance 1 (by decide)) (fun _ h => h) gX11_permit_X11_start rfl ⟨rfl, rfl⟩ nmX11_start ⟨Nat.le_of_ble_eq_true rfl, Nat.le_of_ble_eq_true rfl⟩ (rd_rcv hG.1 (mP_0 hM) rfl) rfl hl.1 rfl (Nat.le_of_ble_eq_true rfl) ⟨by show 0 + 0 ≤ 6; omega, by show 0 + 0 ≤ 1609; omega⟩ dX11_permit_30 (fun H2 locs2 v2 hS2 hs2 hP2 hG2 => ?_)
    obtain ⟨hv2, hM2⟩ := hP2.1 trivial
    subst hv2
    refine W.eq (g2 := F0 mZ 33 ls [.int 1]) rfl ?_
    refine lv_if_eq (tgt := 40) hx hb dX11_permit_33 (by decide) (fun c => absurd c (by decide)) (fun _ => ?_)
    refine lv_iconst (v := 0) hx hb dX11_permit_36 (by decide) ?_
    refine lv_goto (tgt := 66) hx hb dX11_permit_37 (by decide) ?_
    exact mw_iret S hr hlk hS2 ⟨by show 0 ≤ 6; omega, by show 0 ≤ 1609; omega⟩ dX11_permit_66 ⟨1, (by simp [tw2, tw1, c1]), congrArg (fun z => some (Value.int z)) (by exact (if_neg (by decide)).symm), hM2⟩
  · have c1 := b2i_z.mp c1
    refine lv_iload_n hx hb dX11_permit_13 rfl (lv_at hl 3 rfl) ?_
    refine lv_iconst (v := 0) hx hb dX11_permit_14 (by decide) ?_
    refine lv_sipush (v := 999) hx hb dX11_permit_15 (by decide) ?_
    refine rd_S (As := [.int t, .int 0, .int 999]) (rest := [.ref (B 0)]) (v := some (.int (b2i (inB t 0 999 = true)))) S hG (c_X11_isIn l G H t 0 999) gX11_permit_X11_isIn rfl ⟨rfl, rfl⟩ nmX11_isIn ⟨Nat.le_of_ble_eq_true rfl, Nat.le_of_ble_eq_true rfl⟩ rfl hl.1 rfl (Nat.le_of_ble_eq_true rfl) ⟨by show 0 ≤ 6; omega, by show 0 ≤ 1609; omega⟩ dX11_permit_18 ?_
    refine W.eq (g2 := F0 mZ 21 ls [.int (b2i (inB t 0 999 = true)), .ref (B 0)]) rfl ?_
    refine lv_if_ne (tgt := 28) hx hb dX11_permit_21 (by decide) (fun c3 => ?_) (fun c3 => ?_)
    · have c3 := b2i_nz.mp c3
      refine lv_iconst (v := 0) hx hb dX11_permit_28 (by decide) ?_
      refine lv_iconst (v := 1) hx hb dX11_permit_29 (by decide) ?_
      refine mw_V (As := [.int 0, .int 1]) (rest := []) S hD hGX hG hS (c_X11_start l G B th mc cp f g H hM D (dp_le hD hS.1) hB (False) inferInstance 1 (by decide)) (fun _ h => h) gX11_permit_X11_start rfl ⟨rfl, rfl⟩ nmX11_start ⟨Nat.le_of_ble_eq_true rfl, Nat.le_of_ble_eq_true rfl⟩ (rd_rcv hG.1 (mP_0 hM) rfl) rfl hl.1 rfl (Nat.le_of_ble_eq_true rfl) ⟨by show 0 + 0 ≤ 6; omega, by show 0 + 0 ≤ 1609; omega⟩ dX11_permit_30 (fun H4 locs4 v4 hS4 hs4 hP4 hG4 => ?_)
      obtain ⟨hv4, hM4⟩ := hP4.2 not_false
      subst hv4
      refine W.eq (g2 := F0 mZ 33 ls [.int 0]) rfl ?_
      refine lv_if_eq (tgt := 40) hx hb dX11_permit_33 (by decide) (fun _ => ?_) (fun c => absurd (by decide) c)
      refine lv_aload_n hx hb dX11_permit_40 rfl (lv_at hl 0 rfl) ?_
      refine mw_new (fs := [.int 0, .int 0, .int 0, .int 0, .int 0]) (ci := 10) S hG4 iX9 tyX9 tyX9_ok w0 w1 w2 rfl (fun j hj => match j, hj with | 0, _ => rfl | 1, _ => rfl | 2, _ => rfl | 3, _ => rfl | 4, _ => rfl | _ + 5, h => absurd h (by omega)) ⟨by show 0 + 1 ≤ 6; omega, by show 0 + 5 ≤ 1609; omega⟩ dX11_permit_41 (fun H5 ha5 hz5 hx5 => ?_)
      have hM5 := mp_ext hM4 hx5
      have hG5 := gk_ext hx5 hG4
      have hS5 := vs_new hS4 hx5
      have hne5 : ∀ k, mD cp g k → B k ≠ H4.size := fun k hk => Nat.ne_of_lt (mp_lt hM4 hk)
      have hda5 := hD.1 _ hS4.1
      refine lv_dup hx hb dX11_permit_44 rfl ?_
      refine lv_iload_n hx hb dX11_permit_45 rfl (lv_at hl 1 rfl) ?_
      refine lv_iload_n hx hb dX11_permit_46 rfl (lv_at hl 2 rfl) ?_
      refine lv_iload_n hx hb dX11_permit_47 rfl (lv_at hl 3 rfl) ?_
      refine lv_iload hx hb dX11_permit_48 (lv_at hl 4 rfl) ?_
      refine lv_iload hx hb dX11_permit_50 (lv_at hl 5 rfl) ?_
      refine mw_I (As := [.int x, .int y, .int t, .int a, .int b]) (rest := [.ref H4.size, .ref (B 0)]) S hD hGX hG5 hS5 (c_X9_init l G H5 H4.size x y t a b ha5 (hD.2 _ hda5) (Nat.le_trans (hD.2 _ (hD.1 _ (Nat.le_refl _))) hS5.1)) (fun q h => h.elim (fun e => by rw [e]; exact hda5) (fun h => hD.1 q (Nat.le_trans hS5.1 h))) gX11_permit_X9_init rfl ⟨rfl, rfl⟩ w2 w3 w4 rfl nmX9_init ⟨Nat.le_of_ble_eq_true rfl, Nat.le_of_ble_eq_true rfl⟩ rfl hl.1 rfl (Nat.le_of_ble_eq_true rfl) ⟨by show 1 + 0 ≤ 6; omega, by show 5 + 0 ≤ 1609; omega⟩ dX11_permit_52 (fun H6 locs6 v6 hS6 hs6 hP6 hG6 => ?_)
      obtain ⟨hv6, ha6, hz6, hq6⟩ := hP6
      subst hv6
      have hM6 := mp_kept hM5 (fun k hk => hq6 _ (hne5 k hk))
      refine W.eq (g2 := F0 mZ 55 ls [.ref H4.size, .ref (B 0)]) rfl ?_
      refine lv_aload_n hx hb dX11_permit_55 rfl (lv_at hl 0 rfl) ?_
      refine lv_iload hx hb dX11_permit_56 (lv_at hl 4 rfl) ?_
      refine lv_iload hx hb dX11_permit_58 (lv_at hl 5 rfl) ?_
      refine mw_V (As := [.int a, .int b]) (rest := [.ref H4.size, .ref (B 0)]) S hD hGX hG6 hS6 (c_X11_safe l G B 0 mc cp f g H6 hM6 (Nat.le_trans (hD.2 _ (hD.1 _ (Nat.le_refl _))) hS6.1) a b) (fun q h => hD.1 q (Nat.le_trans hS6.1 h)) gX11_permit_X11_safe rfl ⟨rfl, rfl⟩ nmX11_safe ⟨Nat.le_of_ble_eq_true rfl, Nat.le_of_ble_eq_true rfl⟩ (rd_rcv hG6.1 (mP_0 hM6) rfl) rfl hl.1 rfl (Nat.le_of_ble_eq_true rfl) ⟨by show 1 + 5 ≤ 6; omega, by show 5 + 1604 ≤ 1609; omega⟩ dX11_permit_60 (fun H7 locs7 v7 hS7 hs7 hP7 hG7 => ?_)
      obtain ⟨hv7, ho7, hr7, hx7⟩ := hP7
      subst hv7
      have hM7 := mp_ext hM6 hx7
      have ha6_7 := va_at.kept ha6 (hx7.2 _ (va_at.lt ha6))
      refine W.eq (g2 := F0 mZ 63 ls [.ref H6.size, .ref H4.size, .ref (B 0)]) rfl ?_
      refine rd_V (As := [.ref H4.size, .ref H6.size]) (rest := []) (v := some (.int (mHa f g x y t a b (mSa f g a b)))) S hG7 (c_X11_harmed l G B 0 mc cp f g H7 hM7 H4.size x y t a b ha6_7 H6.size (fun i => H6.size + 1 + i) (mSa f g a b) ho7 hr7) gX11_permit_X11_harmed rfl ⟨rfl, rfl⟩ nmX11_harmed ⟨Nat.le_of_ble_eq_true rfl, Nat.le_of_ble_eq_true rfl⟩ (rd_rcv hG7.1 (mP_0 hM7) rfl) rfl hl.1 rfl (Nat.le_of_ble_eq_true rfl) ⟨by show 6 ≤ 6; omega, by show 1609 ≤ 1609; omega⟩ dX11_permit_63 ?_
      refine W.eq (g2 := F0 mZ 66 ls [.int (mHa f g x y t a b (mSa f g a b))]) rfl ?_
      exact mw_iret S hr hlk hS7 ⟨by show 6 ≤ 6; omega, by show 1609 ≤ 1609; omega⟩ dX11_permit_66 ⟨0, (by simp [tw2, tw1, c1, c3]), congrArg (fun z => some (Value.int z)) (by first | (rw [if_pos rfl]; done) | rw [if_pos rfl]; first | (rw [cnt_nI (by omega)]; done) | (rw [cnt_nI (by omega), cnt_nI (by omega)]; done) | rfl | (simp [c1, c3]; done)), hM7⟩
    · have c3 := b2i_z.mp c3
      refine lv_iconst (v := 1) hx hb dX11_permit_24 (by decide) ?_
      refine lv_goto (tgt := 29) hx hb dX11_permit_25 (by decide) ?_
      refine lv_iconst (v := 1) hx hb dX11_permit_29 (by decide) ?_
      refine mw_V (As := [.int 1, .int 1]) (rest := []) S hD hGX hG hS (c_X11_start l G B th mc cp f g H hM D (dp_le hD hS.1) hB (True) inferInstance 1 (by decide)) (fun _ h => h) gX11_permit_X11_start rfl ⟨rfl, rfl⟩ nmX11_start ⟨Nat.le_of_ble_eq_true rfl, Nat.le_of_ble_eq_true rfl⟩ (rd_rcv hG.1 (mP_0 hM) rfl) rfl hl.1 rfl (Nat.le_of_ble_eq_true rfl) ⟨by show 0 + 0 ≤ 6; omega, by show 0 + 0 ≤ 1609; omega⟩ dX11_permit_30 (fun H8 locs8 v8 hS8 hs8 hP8 hG8 => ?_)
      obtain ⟨hv8, hM8⟩ := hP8.1 trivial
      subst hv8
      refine W.eq (g2 := F0 mZ 33 ls [.int 1]) rfl ?_
      refine lv_if_eq (tgt := 40) hx hb dX11_permit_33 (by decide) (fun c => absurd c (by decide)) (fun _ => ?_)
      refine lv_iconst (v := 0) hx hb dX11_permit_36 (by decide) ?_
      refine lv_goto (tgt := 66) hx hb dX11_permit_37 (by decide) ?_
      exact mw_iret S hr hlk hS8 ⟨by show 0 ≤ 6; omega, by show 0 ≤ 1609; omega⟩ dX11_permit_66 ⟨1, (by simp [tw2, tw1, c1, c3]), congrArg (fun z => some (Value.int z)) (by exact (if_neg (by decide)).symm), hM8⟩

