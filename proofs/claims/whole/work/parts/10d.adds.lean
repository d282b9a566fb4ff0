/-! the reference's methods that add to its lists -/
theorem ne_lt {n m : Nat} {M : Int32} (h : n ≤ m) (hM : nI m = M) (h2 : ¬ nI n = M) : n < m := Nat.lt_of_le_of_ne h fun e => h2 (by rw [e]; exact hM)
theorem fu_lt {g : Nat → Nat} (h : ¬ mFu g = true) (h2 : g 5 ≤ 16) : g 5 < 16 := ne_lt h2 (M := 16) (by decide) fun e => h (decide_eq_true e)
theorem mNP_x {x y a b : Int32} (h : ¬ mNP x y a b = true) : -20 ≤ x.toInt ∧ x.toInt ≤ 60 := by
  have h2 : inB x (-20) 60 = true := Classical.byContradiction fun h3 => h (decide_eq_true (Or.inl h3))
  have h3 : ¬ x < -20 ∧ ¬ 60 < x := of_decide_eq_true h2
  have h4 := Int32.le_iff_toInt_le.mp (Int32.not_lt.mp h3.1)
  have h5 := Int32.le_iff_toInt_le.mp (Int32.not_lt.mp h3.2)
  have e1 : (-20 : Int32).toInt = -20 := by decide
  have e2 : (60 : Int32).toInt = 60 := by decide
  omega
/-- the reference lies in the heap, its lists in some state -/
abbrev MX (G : GT) (D : Nat → Prop) (r : Nat) (th : Int32) (f : Nat → Nat → Int32) (g : Nat → Nat) (t : Heap) : Prop := ∃ (B' : Nat → Nat) (mc' : Nat → Int32) (cp' : Nat → Nat), MP G B' th mc' cp' f g t ∧ DB D B' cp' g ∧ CG cp' ∧ B' 0 = r
theorem nmX11_obstacle : nmV yX11_obstacle RX11 5 := by decide +kernel

set_option maxHeartbeats 1000000 in
set_option maxRecDepth 100000 in
theorem c_X11_obstacle (l : Launch) (G : GT) (B : Nat → Nat) (th : Int32) (mc : Nat → Int32) (cp : Nat → Nat) (f : Nat → Nat → Int32) (g : Nat → Nat) (H : Heap) (hM : MP G B th mc cp f g H) (D : Nat → Prop) (hD : DP G D H.size) (hB : DB D B cp g) (hcp : CG cp) (x y t a b : Int32) : MwV l G D H yX11_obstacle wsX11_obstacle { frames := 8, cells := 2, slots := 45, locals := 211 } [.ref (B 0), .int x, .int y, .int t, .int a, .int b] 2 45 (fun v u => ∃ mt : Int32, mt = tw2 (mNP x y a b = true ∨ ¬ inB t 0 999 = true) (nI (g 1) = 12) ∧ v = some (.int (if mt = 0 then nI (g 1) else 0)) ∧ MX G D (B 0) mt (if mt = 0 then obAdd f g x y t a b else f) (if mt = 0 then gset g 1 (g 1 + 1) else g) u) := by
  refine mw_of (cc := cX11_obstacle) (maxL := 6) (ret := (some .int)) (by decide) rfl (Nat.le_of_ble_eq_true rfl) ?_
  intro pZ eZ sZ mZ bZ meZ cZ ls S hr hlk hl hHs hG hGX
  have S : CallFix pZ mZ cZ cX11_obstacle 6 sZ _ wsX11_obstacle RX11 := S
  have hx := S.1
  have hb := S.2.1
  have hown := S.2.2.2.1
  have hts := S.2.2.2.2
  have hl : lv_has ls 6 [(0, .ref (B 0)), (1, .int x), (2, .int y), (3, .int t), (4, .int a), (5, .int b)] := hl
  have w0 := hts (.fieldLink RX11 10 "MinimaRoomModel" "obstacles" "Ljava/util/ArrayList;") (by decide +kernel)
  have w1 := hts (.classLink RX11 75 RX9) (by decide +kernel)
  have w2 := hts (.instantiable RX9 5) (by decide +kernel)
  have w3 := hts (.initialized RX9) (by decide +kernel)
  have w4 := hts (.methodLink RX11 145 yX9_init) (by decide +kernel)
  have w5 := hts (.instanceMethod yX9_init) (by decide +kernel)
  have iX11 : ∀ w ∈ u_ws RX11 TX11 11, w ∈ wsX11_obstacle := by decide +kernel
  have iX9 : ∀ w ∈ u_ws RX9 TX9 5, w ∈ wsX11_obstacle := by decide +kernel
  have hS : va_S D H H [] := va_S.rf
  have hI := hM.1
  have hgb := hI.1.1
  have hg0 := hI.1.2.1
  have hg1 := hI.1.2.2.1
  have hg3 := hI.1.2.2.2.1
  have hg4 := hI.1.2.2.2.2.1
  have hg5 := hI.1.2.2.2.2.2
  refine lv_aload_n hx hb dX11_obstacle_0 rfl (lv_at hl 0 rfl) ?_
  refine lv_iload_n hx hb dX11_obstacle_1 rfl (lv_at hl 1 rfl) ?_
  refine lv_iload_n hx hb dX11_obstacle_2 rfl (lv_at hl 2 rfl) ?_
  refine lv_iload hx hb dX11_obstacle_3 (lv_at hl 4 rfl) ?_
  refine lv_iload hx hb dX11_obstacle_5 (lv_at hl 5 rfl) ?_
  refine rd_S (As := [.int x, .int y, .int a, .int b]) (rest := [.ref (B 0)]) (v := some (.int (b2i (mNP x y a b = true)))) S hG (c_X11_isNoPlace l G H x y a b) gX11_obstacle_X11_isNoPlace rfl ⟨rfl, rfl⟩ nmX11_isNoPlace ⟨Nat.le_of_ble_eq_true rfl, Nat.le_of_ble_eq_true rfl⟩ rfl hl.1 rfl (Nat.le_of_ble_eq_true rfl) ⟨by show 0 ≤ 2; omega, by show 0 ≤ 45; omega⟩ dX11_obstacle_7 ?_
  refine W.eq (g2 := F0 mZ 10 ls [.int (b2i (mNP x y a b = true)), .ref (B 0)]) rfl ?_
  refine lv_if_ne (tgt := 24) hx hb dX11_obstacle_10 (by decide) (fun c1 => ?_) (fun c1 => ?_)
  · have c1 := b2i_nz.mp c1
    refine lv_iconst (v := 1) hx hb dX11_obstacle_24 (by decide) ?_
    refine lv_goto (tgt := 29) hx hb dX11_obstacle_25 (by decide) ?_
    refine lv_iconst (v := 1) hx hb dX11_obstacle_29 (by decide) ?_
    refine mw_V (As := [.int 1, .int 1]) (rest := []) S hD hGX hG hS (c_X11_start l G B th mc cp f g H hM D (dp_le hD hS.1) hB (True) inferInstance 1 (by decide)) (fun _ h => h) gX11_obstacle_X11_start rfl ⟨rfl, rfl⟩ nmX11_start ⟨Nat.le_of_ble_eq_true rfl, Nat.le_of_ble_eq_true rfl⟩ (rd_rcv hG.1 (mP_0 hM) rfl) rfl hl.1 rfl (Nat.le_of_ble_eq_true rfl) ⟨by show 0 + 0 ≤ 2; omega, by show 0 + 0 ≤ 45; omega⟩ dX11_obstacle_30 (fun H2 locs2 v2 hS2 hs2 hP2 hG2 => ?_)
    obtain ⟨hv2, hM2⟩ := hP2.1 trivial
    subst hv2
    refine W.eq (g2 := F0 mZ 33 ls [.int 1]) rfl ?_
    refine lv_if_ne (tgt := 61) hx hb dX11_obstacle_33 (by decide) (fun _ => ?_) (fun c => absurd c (by decide))
    refine lv_iconst (v := 0) hx hb dX11_obstacle_61 (by decide) ?_
    exact mw_iret S hr hlk hS2 ⟨by show 0 ≤ 2; omega, by show 0 ≤ 45; omega⟩ dX11_obstacle_62 ⟨1, (by simp [tw3, tw2, tw1, c1]), congrArg (fun z => some (Value.int z)) (by exact (if_neg (by decide)).symm), (by rw [if_neg (by decide), if_neg (by decide)]; exact ⟨B, mc, cp, hM2, hB, hcp, rfl⟩)⟩
  · have c1 := b2i_z.mp c1
    refine lv_iload_n hx hb dX11_obstacle_13 rfl (lv_at hl 3 rfl) ?_
    refine lv_iconst (v := 0) hx hb dX11_obstacle_14 (by decide) ?_
    refine lv_sipush (v := 999) hx hb dX11_obstacle_15 (by decide) ?_
    refine rd_S (As := [.int t, .int 0, .int 999]) (rest := [.ref (B 0)]) (v := some (.int (b2i (inB t 0 999 = true)))) S hG (c_X11_isIn l G H t 0 999) gX11_obstacle_X11_isIn rfl ⟨rfl, rfl⟩ nmX11_isIn ⟨Nat.le_of_ble_eq_true rfl, Nat.le_of_ble_eq_true rfl⟩ rfl hl.1 rfl (Nat.le_of_ble_eq_true rfl) ⟨by show 0 ≤ 2; omega, by show 0 ≤ 45; omega⟩ dX11_obstacle_18 ?_
    refine W.eq (g2 := F0 mZ 21 ls [.int (b2i (inB t 0 999 = true)), .ref (B 0)]) rfl ?_
    refine lv_if_ne (tgt := 28) hx hb dX11_obstacle_21 (by decide) (fun c3 => ?_) (fun c3 => ?_)
    · have c3 := b2i_nz.mp c3
      refine lv_iconst (v := 0) hx hb dX11_obstacle_28 (by decide) ?_
      refine lv_iconst (v := 1) hx hb dX11_obstacle_29 (by decide) ?_
      refine mw_V (As := [.int 0, .int 1]) (rest := []) S hD hGX hG hS (c_X11_start l G B th mc cp f g H hM D (dp_le hD hS.1) hB (False) inferInstance 1 (by decide)) (fun _ h => h) gX11_obstacle_X11_start rfl ⟨rfl, rfl⟩ nmX11_start ⟨Nat.le_of_ble_eq_true rfl, Nat.le_of_ble_eq_true rfl⟩ (rd_rcv hG.1 (mP_0 hM) rfl) rfl hl.1 rfl (Nat.le_of_ble_eq_true rfl) ⟨by show 0 + 0 ≤ 2; omega, by show 0 + 0 ≤ 45; omega⟩ dX11_obstacle_30 (fun H4 locs4 v4 hS4 hs4 hP4 hG4 => ?_)
      obtain ⟨hv4, hM4⟩ := hP4.2 not_false
      subst hv4
      refine W.eq (g2 := F0 mZ 33 ls [.int 0]) rfl ?_
      refine lv_if_ne (tgt := 61) hx hb dX11_obstacle_33 (by decide) (fun c => absurd (by decide) c) (fun _ => ?_)
      refine lv_aload_n hx hb dX11_obstacle_36 rfl (lv_at hl 0 rfl) ?_
      refine lv_aload_n hx hb dX11_obstacle_37 rfl (lv_at hl 0 rfl) ?_
      refine rd_get (own := RX11) (x := .ref (B 5)) S hG4.1 iX11 (mP_0 hM4) 4 rfl (by decide) w0 rfl dX11_obstacle_38 ?_
      refine rd_V (As := []) (rest := [.ref (B 0)]) (v := some (.int (nI (g 1)))) S hG4 (c_Jx4a65c_size_8abf5 l G H4 (B 5) (eA G B cp 5 8) (mc 5) (nI (g 1)) (mP_5 hM4)) gX11_obstacle_Jx4a65c_size_8abf5 rfl ⟨rfl, rfl⟩ nmJx4a65c_size_8abf5 ⟨Nat.le_of_ble_eq_true rfl, Nat.le_of_ble_eq_true rfl⟩ (rd_rcv hG4.1 (mP_5 hM4) rfl) rfl hl.1 rfl (Nat.le_of_ble_eq_true rfl) ⟨by show 0 ≤ 2; omega, by show 0 ≤ 45; omega⟩ dX11_obstacle_41 ?_
      refine W.eq (g2 := F0 mZ 44 ls [.int (nI (g 1)), .ref (B 0)]) rfl ?_
      refine lv_bipush (v := 12) hx hb dX11_obstacle_44 (by decide) ?_
      refine lv_icmp_ne (tgt := 53) hx hb dX11_obstacle_46 (by decide) (fun c5 => ?_) (fun c5 => ?_)
      · refine lv_iconst (v := 0) hx hb dX11_obstacle_53 (by decide) ?_
        refine lv_iconst (v := 2) hx hb dX11_obstacle_54 (by decide) ?_
        refine mw_V (As := [.int 0, .int 2]) (rest := []) S hD hGX hG4 hS4 (c_X11_refuse l G B 0 mc cp f g H4 hM4 rfl D (dp_le hD hS4.1) hB (False) inferInstance 2 (by decide)) (fun _ h => h) gX11_obstacle_X11_refuse rfl ⟨rfl, rfl⟩ nmX11_refuse ⟨Nat.le_of_ble_eq_true rfl, Nat.le_of_ble_eq_true rfl⟩ (rd_rcv hG4.1 (mP_0 hM4) rfl) rfl hl.1 rfl (Nat.le_of_ble_eq_true rfl) ⟨by show 0 + 0 ≤ 2; omega, by show 0 + 0 ≤ 45; omega⟩ dX11_obstacle_55 (fun H6 locs6 v6 hS6 hs6 hP6 hG6 => ?_)
        obtain ⟨hv6, hM6⟩ := hP6.2 not_false
        subst hv6
        refine W.eq (g2 := F0 mZ 58 ls [.int 0]) rfl ?_
        refine lv_if_eq (tgt := 63) hx hb dX11_obstacle_58 (by decide) (fun _ => ?_) (fun c => absurd (by decide) c)
        refine lv_aload_n hx hb dX11_obstacle_63 rfl (lv_at hl 0 rfl) ?_
        refine rd_get (own := RX11) (x := .ref (B 5)) S hG6.1 iX11 (mP_0 hM6) 4 rfl (by decide) w0 rfl dX11_obstacle_64 ?_
        refine mw_new (fs := [.int 0, .int 0, .int 0, .int 0, .int 0]) (ci := 10) S hG6 iX9 tyX9 tyX9_ok w1 w2 w3 rfl (fun j hj => match j, hj with | 0, _ => rfl | 1, _ => rfl | 2, _ => rfl | 3, _ => rfl | 4, _ => rfl | _ + 5, h => absurd h (by omega)) ⟨by show 0 + 1 ≤ 2; omega, by show 0 + 5 ≤ 45; omega⟩ dX11_obstacle_67 (fun H7 ha7 hz7 hx7 => ?_)
        have hM7 := mp_ext hM6 hx7
        have hG7 := gk_ext hx7 hG6
        have hS7 := vs_new hS6 hx7
        have hne7 : ∀ k, mD cp g k → B k ≠ H6.size := fun k hk => Nat.ne_of_lt (mp_lt hM6 hk)
        have hda7 := hD.1 _ hS6.1
        refine lv_dup hx hb dX11_obstacle_70 rfl ?_
        refine lv_iload_n hx hb dX11_obstacle_71 rfl (lv_at hl 1 rfl) ?_
        refine lv_iload_n hx hb dX11_obstacle_72 rfl (lv_at hl 2 rfl) ?_
        refine lv_iload_n hx hb dX11_obstacle_73 rfl (lv_at hl 3 rfl) ?_
        refine lv_iload hx hb dX11_obstacle_74 (lv_at hl 4 rfl) ?_
        refine lv_iload hx hb dX11_obstacle_76 (lv_at hl 5 rfl) ?_
        refine mw_I (As := [.int x, .int y, .int t, .int a, .int b]) (rest := [.ref H6.size, .ref (B 5)]) S hD hGX hG7 hS7 (c_X9_init l G H7 H6.size x y t a b ha7 (hD.2 _ hda7) (Nat.le_trans (hD.2 _ (hD.1 _ (Nat.le_refl _))) hS7.1)) (fun q h => h.elim (fun e => by rw [e]; exact hda7) (fun h => hD.1 q (Nat.le_trans hS7.1 h))) gX11_obstacle_X9_init rfl ⟨rfl, rfl⟩ w3 w4 w5 rfl nmX9_init ⟨Nat.le_of_ble_eq_true rfl, Nat.le_of_ble_eq_true rfl⟩ rfl hl.1 rfl (Nat.le_of_ble_eq_true rfl) ⟨by show 1 + 0 ≤ 2; omega, by show 5 + 0 ≤ 45; omega⟩ dX11_obstacle_78 (fun H8 locs8 v8 hS8 hs8 hP8 hG8 => ?_)
        obtain ⟨hv8, ha8, hz8, hq8⟩ := hP8
        subst hv8
        have hM8 := mp_kept hM7 (fun k hk => hq8 _ (hne7 k hk))
        refine W.eq (g2 := F0 mZ 81 ls [.ref H6.size, .ref (B 5)]) rfl ?_
        refine mw_V (As := [.ref H6.size]) (rest := []) S hD hGX hG8 hS8 (c_addO l G hM8 D (dp_le hD hS8.1) hB hcp (hG8.2.2.2.1 0 (by decide)) hG8.2.2.2.2.2.1 H6.size _ ha8 hne7) (fun _ h => h) gX11_obstacle_Jx4a65c_add_9ea2d rfl ⟨rfl, rfl⟩ nmJx4a65c_add_9ea2d ⟨Nat.le_of_ble_eq_true rfl, Nat.le_of_ble_eq_true rfl⟩ (rd_rcv hG8.1 (mP_5 hM8) rfl) rfl hl.1 rfl (Nat.le_of_ble_eq_true rfl) ⟨by show 1 + 1 ≤ 2; omega, by show 5 + 40 ≤ 45; omega⟩ dX11_obstacle_81 (fun H9 locs9 v9 hS9 hs9 hP9 hG9 => ?_)
        have hlt9 : g 1 < 12 := ne_lt hg1 (by decide) c5
        obtain ⟨hv9, B9, mc9, cp9, hM9, hB9, hcp9, hb9⟩ := mp_addO hM8 hB (fun q hq => hD.1 q (Nat.le_trans hS8.1 hq)) hD.2 (hG8.2.2.2.1 0 (by decide)) hG9.2.2.2.2.2.1 ha8 hda7 hne7 hcp hlt9 (mNP_x c1) hP9
        subst hv9
        rw [← hb9] at hl
        refine W.eq (g2 := F0 mZ 84 ls [.int 1]) rfl ?_
        refine lv_pop hx hb dX11_obstacle_84 rfl ?_
        refine lv_aload_n hx hb dX11_obstacle_85 rfl (lv_at hl 0 rfl) ?_
        refine rd_get (own := RX11) (x := .ref (B9 5)) S hG9.1 iX11 (mP_0 hM9) 4 rfl (by decide) w0 rfl dX11_obstacle_86 ?_
        refine rd_V (As := []) (rest := []) (v := some (.int (nI ((gset g 1 (g 1 + 1)) 1)))) S hG9 (c_Jx4a65c_size_8abf5 l G H9 (B9 5) (eA G B9 cp9 5 8) (mc9 5) (nI ((gset g 1 (g 1 + 1)) 1)) (mP_5 hM9)) gX11_obstacle_Jx4a65c_size_8abf5 rfl ⟨rfl, rfl⟩ nmJx4a65c_size_8abf5 ⟨Nat.le_of_ble_eq_true rfl, Nat.le_of_ble_eq_true rfl⟩ (rd_rcv hG9.1 (mP_5 hM9) rfl) rfl hl.1 rfl (Nat.le_of_ble_eq_true rfl) ⟨by show 2 ≤ 2; omega, by show 45 ≤ 45; omega⟩ dX11_obstacle_89 ?_
        refine W.eq (g2 := F0 mZ 92 ls [.int (nI ((gset g 1 (g 1 + 1)) 1))]) rfl ?_
        refine lv_iconst (v := 1) hx hb dX11_obstacle_92 (by decide) ?_
        refine lv_isub hx hb dX11_obstacle_93 ?_
        exact mw_iret S hr hlk hS9 ⟨by show 2 ≤ 2; omega, by show 45 ≤ 45; omega⟩ dX11_obstacle_94 ⟨0, (by simp [tw3, tw2, tw1, c1, c3, c5]), congrArg (fun z => some (Value.int z)) (by rw [if_pos rfl]; exact pd_s (g 1)), (by rw [if_pos rfl, if_pos rfl]; exact ⟨B9, mc9, cp9, hM9, hB9, hcp9, hb9⟩)⟩
      · refine lv_iconst (v := 1) hx hb dX11_obstacle_49 (by decide) ?_
        refine lv_goto (tgt := 54) hx hb dX11_obstacle_50 (by decide) ?_
        refine lv_iconst (v := 2) hx hb dX11_obstacle_54 (by decide) ?_
        refine mw_V (As := [.int 1, .int 2]) (rest := []) S hD hGX hG4 hS4 (c_X11_refuse l G B 0 mc cp f g H4 hM4 rfl D (dp_le hD hS4.1) hB (True) inferInstance 2 (by decide)) (fun _ h => h) gX11_obstacle_X11_refuse rfl ⟨rfl, rfl⟩ nmX11_refuse ⟨Nat.le_of_ble_eq_true rfl, Nat.le_of_ble_eq_true rfl⟩ (rd_rcv hG4.1 (mP_0 hM4) rfl) rfl hl.1 rfl (Nat.le_of_ble_eq_true rfl) ⟨by show 0 + 0 ≤ 2; omega, by show 0 + 0 ≤ 45; omega⟩ dX11_obstacle_55 (fun H10 locs10 v10 hS10 hs10 hP10 hG10 => ?_)
        obtain ⟨hv10, hM10⟩ := hP10.1 trivial
        subst hv10
        refine W.eq (g2 := F0 mZ 58 ls [.int 1]) rfl ?_
        refine lv_if_eq (tgt := 63) hx hb dX11_obstacle_58 (by decide) (fun c => absurd c (by decide)) (fun _ => ?_)
        refine lv_iconst (v := 0) hx hb dX11_obstacle_61 (by decide) ?_
        exact mw_iret S hr hlk hS10 ⟨by show 0 ≤ 2; omega, by show 0 ≤ 45; omega⟩ dX11_obstacle_62 ⟨2, (by simp [tw3, tw2, tw1, c1, c3, c5]), congrArg (fun z => some (Value.int z)) (by exact (if_neg (by decide)).symm), (by rw [if_neg (by decide), if_neg (by decide)]; exact ⟨B, mc, cp, hM10, hB, hcp, rfl⟩)⟩
    · have c3 := b2i_z.mp c3
      refine lv_iconst (v := 1) hx hb dX11_obstacle_24 (by decide) ?_
      refine lv_goto (tgt := 29) hx hb dX11_obstacle_25 (by decide) ?_
      refine lv_iconst (v := 1) hx hb dX11_obstacle_29 (by decide) ?_
      refine mw_V (As := [.int 1, .int 1]) (rest := []) S hD hGX hG hS (c_X11_start l G B th mc cp f g H hM D (dp_le hD hS.1) hB (True) inferInstance 1 (by decide)) (fun _ h => h) gX11_obstacle_X11_start rfl ⟨rfl, rfl⟩ nmX11_start ⟨Nat.le_of_ble_eq_true rfl, Nat.le_of_ble_eq_true rfl⟩ (rd_rcv hG.1 (mP_0 hM) rfl) rfl hl.1 rfl (Nat.le_of_ble_eq_true rfl) ⟨by show 0 + 0 ≤ 2; omega, by show 0 + 0 ≤ 45; omega⟩ dX11_obstacle_30 (fun H11 locs11 v11 hS11 hs11 hP11 hG11 => ?_)
      obtain ⟨hv11, hM11⟩ := hP11.1 trivial
      subst hv11
      refine W.eq (g2 := F0 mZ 33 ls [.int 1]) rfl ?_
      refine lv_if_ne (tgt := 61) hx hb dX11_obstacle_33 (by decide) (fun _ => ?_) (fun c => absurd c (by decide))
      refine lv_iconst (v := 0) hx hb dX11_obstacle_61 (by decide) ?_
      exact mw_iret S hr hlk hS11 ⟨by show 0 ≤ 2; omega, by show 0 ≤ 45; omega⟩ dX11_obstacle_62 ⟨1, (by simp [tw3, tw2, tw1, c1, c3]), congrArg (fun z => some (Value.int z)) (by exact (if_neg (by decide)).symm), (by rw [if_neg (by decide), if_neg (by decide)]; exact ⟨B, mc, cp, hM11, hB, hcp, rfl⟩)⟩

theorem nmX11_procedure : nmV yX11_procedure RX11 2 := by decide +kernel

set_option maxHeartbeats 1000000 in
set_option maxRecDepth 100000 in
theorem c_X11_procedure (l : Launch) (G : GT) (B : Nat → Nat) (th : Int32) (mc : Nat → Int32) (cp : Nat → Nat) (f : Nat → Nat → Int32) (g : Nat → Nat) (H : Heap) (hM : MP G B th mc cp f g H) (D : Nat → Prop) (hD : DP G D H.size) (hB : DB D B cp g) (hcp : CG cp) (i s : Int32) (ham : ∀ j, j < g 4 → ∃ i, i < g 3 ∧ f 19 j = nI i) : MwV l G D H yX11_procedure wsX11_procedure { frames := 8, cells := 3, slots := 46, locals := 211 } [.ref (B 0), .int i, .int s] 3 46 (fun v u => ∃ mt : Int32, mt = tw3 (mNr i 0 2 = true) (¬ inB s 10 40 = true) (nI (g 3) = 4) ∧ v = some (.int (if mt = 0 then nI (g 3) else 0)) ∧ MX G D (B 0) mt (if mt = 0 then prAdd f g i s else f) (if mt = 0 then gset g 3 (g 3 + 1) else g) u) := by
  refine mw_of (cc := cX11_procedure) (maxL := 3) (ret := (some .int)) (by decide) rfl (Nat.le_of_ble_eq_true rfl) ?_
  intro pZ eZ sZ mZ bZ meZ cZ ls S hr hlk hl hHs hG hGX
  have S : CallFix pZ mZ cZ cX11_procedure 3 sZ _ wsX11_procedure RX11 := S
  have hx := S.1
  have hb := S.2.1
  have hown := S.2.2.2.1
  have hts := S.2.2.2.2
  have hl : lv_has ls 3 [(0, .ref (B 0)), (1, .int i), (2, .int s)] := hl
  have w0 := hts (.fieldLink RX11 23 "MinimaRoomModel" "procedures" "Ljava/util/ArrayList;") (by decide +kernel)
  have w1 := hts (.classLink RX11 59 RX10) (by decide +kernel)
  have w2 := hts (.instantiable RX10 3) (by decide +kernel)
  have w3 := hts (.initialized RX10) (by decide +kernel)
  have w4 := hts (.methodLink RX11 166 yX10_init) (by decide +kernel)
  have w5 := hts (.instanceMethod yX10_init) (by decide +kernel)
  have iX11 : ∀ w ∈ u_ws RX11 TX11 11, w ∈ wsX11_procedure := by decide +kernel
  have iX10 : ∀ w ∈ u_ws RX10 TX10 3, w ∈ wsX11_procedure := by decide +kernel
  have hS : va_S D H H [] := va_S.rf
  have hI := hM.1
  have hgb := hI.1.1
  have hg0 := hI.1.2.1
  have hg1 := hI.1.2.2.1
  have hg3 := hI.1.2.2.2.1
  have hg4 := hI.1.2.2.2.2.1
  have hg5 := hI.1.2.2.2.2.2
  refine lv_aload_n hx hb dX11_procedure_0 rfl (lv_at hl 0 rfl) ?_
  refine lv_iload_n hx hb dX11_procedure_1 rfl (lv_at hl 1 rfl) ?_
  refine rd_S (As := [.int i]) (rest := [.ref (B 0)]) (v := some (.int (b2i (mNr i 0 2 = true)))) S hG (c_X11_isNoAid l G H i) gX11_procedure_X11_isNoAid rfl ⟨rfl, rfl⟩ nmX11_isNoAid ⟨Nat.le_of_ble_eq_true rfl, Nat.le_of_ble_eq_true rfl⟩ rfl hl.1 rfl (Nat.le_of_ble_eq_true rfl) ⟨by show 0 ≤ 3; omega, by show 0 ≤ 46; omega⟩ dX11_procedure_2 ?_
  refine W.eq (g2 := F0 mZ 5 ls [.int (b2i (mNr i 0 2 = true)), .ref (B 0)]) rfl ?_
  refine lv_iconst (v := 1) hx hb dX11_procedure_5 (by decide) ?_
  refine mw_V (As := [.int (b2i (mNr i 0 2 = true)), .int 1]) (rest := []) S hD hGX hG hS (c_X11_start l G B th mc cp f g H hM D (dp_le hD hS.1) hB (mNr i 0 2 = true) inferInstance 1 (by decide)) (fun _ h => h) gX11_procedure_X11_start rfl ⟨rfl, rfl⟩ nmX11_start ⟨Nat.le_of_ble_eq_true rfl, Nat.le_of_ble_eq_true rfl⟩ (rd_rcv hG.1 (mP_0 hM) rfl) rfl hl.1 rfl (Nat.le_of_ble_eq_true rfl) ⟨by show 0 + 0 ≤ 3; omega, by show 0 + 0 ≤ 46; omega⟩ dX11_procedure_6 (fun H1 locs1 v1 hS1 hs1 hP1 hG1 => ?_)
  by_cases p1 : mNr i 0 2 = true
  · obtain ⟨hv1, hM1⟩ := hP1.1 p1
    subst hv1
    refine W.eq (g2 := F0 mZ 9 ls [.int 1]) rfl ?_
    refine lv_if_ne (tgt := 60) hx hb dX11_procedure_9 (by decide) (fun _ => ?_) (fun c => absurd c (by decide))
    refine lv_iconst (v := 0) hx hb dX11_procedure_60 (by decide) ?_
    exact mw_iret S hr hlk hS1 ⟨by show 0 ≤ 3; omega, by show 0 ≤ 46; omega⟩ dX11_procedure_61 ⟨1, (by simp [tw3, tw2, tw1, p1]), congrArg (fun z => some (Value.int z)) (by exact (if_neg (by decide)).symm), (by rw [if_neg (by decide), if_neg (by decide)]; exact ⟨B, mc, cp, hM1, hB, hcp, rfl⟩)⟩
  · obtain ⟨hv1, hM1⟩ := hP1.2 p1
    subst hv1
    refine W.eq (g2 := F0 mZ 9 ls [.int 0]) rfl ?_
    refine lv_if_ne (tgt := 60) hx hb dX11_procedure_9 (by decide) (fun c => absurd (by decide) c) (fun _ => ?_)
    refine lv_aload_n hx hb dX11_procedure_12 rfl (lv_at hl 0 rfl) ?_
    refine lv_iload_n hx hb dX11_procedure_13 rfl (lv_at hl 2 rfl) ?_
    refine lv_bipush (v := 10) hx hb dX11_procedure_14 (by decide) ?_
    refine lv_bipush (v := 40) hx hb dX11_procedure_16 (by decide) ?_
    refine rd_S (As := [.int s, .int 10, .int 40]) (rest := [.ref (B 0)]) (v := some (.int (b2i (inB s 10 40 = true)))) S hG1 (c_X11_isIn l G H1 s 10 40) gX11_procedure_X11_isIn rfl ⟨rfl, rfl⟩ nmX11_isIn ⟨Nat.le_of_ble_eq_true rfl, Nat.le_of_ble_eq_true rfl⟩ rfl hl.1 rfl (Nat.le_of_ble_eq_true rfl) ⟨by show 0 ≤ 3; omega, by show 0 ≤ 46; omega⟩ dX11_procedure_18 ?_
    refine W.eq (g2 := F0 mZ 21 ls [.int (b2i (inB s 10 40 = true)), .ref (B 0)]) rfl ?_
    refine lv_if_ne (tgt := 28) hx hb dX11_procedure_21 (by decide) (fun c2 => ?_) (fun c2 => ?_)
    · have c2 := b2i_nz.mp c2
      refine lv_iconst (v := 0) hx hb dX11_procedure_28 (by decide) ?_
      refine lv_iconst (v := 2) hx hb dX11_procedure_29 (by decide) ?_
      refine mw_V (As := [.int 0, .int 2]) (rest := []) S hD hGX hG1 hS1 (c_X11_refuse l G B 0 mc cp f g H1 hM1 rfl D (dp_le hD hS1.1) hB (False) inferInstance 2 (by decide)) (fun _ h => h) gX11_procedure_X11_refuse rfl ⟨rfl, rfl⟩ nmX11_refuse ⟨Nat.le_of_ble_eq_true rfl, Nat.le_of_ble_eq_true rfl⟩ (rd_rcv hG1.1 (mP_0 hM1) rfl) rfl hl.1 rfl (Nat.le_of_ble_eq_true rfl) ⟨by show 0 + 0 ≤ 3; omega, by show 0 + 0 ≤ 46; omega⟩ dX11_procedure_30 (fun H3 locs3 v3 hS3 hs3 hP3 hG3 => ?_)
      obtain ⟨hv3, hM3⟩ := hP3.2 not_false
      subst hv3
      refine W.eq (g2 := F0 mZ 33 ls [.int 0]) rfl ?_
      refine lv_if_ne (tgt := 60) hx hb dX11_procedure_33 (by decide) (fun c => absurd (by decide) c) (fun _ => ?_)
      refine lv_aload_n hx hb dX11_procedure_36 rfl (lv_at hl 0 rfl) ?_
      refine lv_aload_n hx hb dX11_procedure_37 rfl (lv_at hl 0 rfl) ?_
      refine rd_get (own := RX11) (x := .ref (B 6)) S hG3.1 iX11 (mP_0 hM3) 7 rfl (by decide) w0 rfl dX11_procedure_38 ?_
      refine rd_V (As := []) (rest := [.ref (B 0)]) (v := some (.int (nI (g 3)))) S hG3 (c_Jx4a65c_size_8abf5 l G H3 (B 6) (eA G B cp 6 9) (mc 6) (nI (g 3)) (mP_6 hM3)) gX11_procedure_Jx4a65c_size_8abf5 rfl ⟨rfl, rfl⟩ nmJx4a65c_size_8abf5 ⟨Nat.le_of_ble_eq_true rfl, Nat.le_of_ble_eq_true rfl⟩ (rd_rcv hG3.1 (mP_6 hM3) rfl) rfl hl.1 rfl (Nat.le_of_ble_eq_true rfl) ⟨by show 0 ≤ 3; omega, by show 0 ≤ 46; omega⟩ dX11_procedure_41 ?_
      refine W.eq (g2 := F0 mZ 44 ls [.int (nI (g 3)), .ref (B 0)]) rfl ?_
      refine lv_iconst (v := 4) hx hb dX11_procedure_44 (by decide) ?_
      refine lv_icmp_ne (tgt := 52) hx hb dX11_procedure_45 (by decide) (fun c4 => ?_) (fun c4 => ?_)
      · refine lv_iconst (v := 0) hx hb dX11_procedure_52 (by decide) ?_
        refine lv_iconst (v := 3) hx hb dX11_procedure_53 (by decide) ?_
        refine mw_V (As := [.int 0, .int 3]) (rest := []) S hD hGX hG3 hS3 (c_X11_refuse l G B 0 mc cp f g H3 hM3 rfl D (dp_le hD hS3.1) hB (False) inferInstance 3 (by decide)) (fun _ h => h) gX11_procedure_X11_refuse rfl ⟨rfl, rfl⟩ nmX11_refuse ⟨Nat.le_of_ble_eq_true rfl, Nat.le_of_ble_eq_true rfl⟩ (rd_rcv hG3.1 (mP_0 hM3) rfl) rfl hl.1 rfl (Nat.le_of_ble_eq_true rfl) ⟨by show 0 + 0 ≤ 3; omega, by show 0 + 0 ≤ 46; omega⟩ dX11_procedure_54 (fun H5 locs5 v5 hS5 hs5 hP5 hG5 => ?_)
        obtain ⟨hv5, hM5⟩ := hP5.2 not_false
        subst hv5
        refine W.eq (g2 := F0 mZ 57 ls [.int 0]) rfl ?_
        refine lv_if_eq (tgt := 62) hx hb dX11_procedure_57 (by decide) (fun _ => ?_) (fun c => absurd (by decide) c)
        refine lv_aload_n hx hb dX11_procedure_62 rfl (lv_at hl 0 rfl) ?_
        refine rd_get (own := RX11) (x := .ref (B 6)) S hG5.1 iX11 (mP_0 hM5) 7 rfl (by decide) w0 rfl dX11_procedure_63 ?_
        refine mw_new (fs := [.int 0, .int 0, .null]) (ci := 11) S hG5 iX10 tyX10 tyX10_ok w1 w2 w3 rfl (fun j hj => match j, hj with | 0, _ => rfl | 1, _ => rfl | 2, _ => rfl | _ + 3, h => absurd h (by omega)) ⟨by show 0 + 1 ≤ 3; omega, by show 0 + 3 ≤ 46; omega⟩ dX11_procedure_66 (fun H6 ha6 hz6 hx6 => ?_)
        have hM6 := mp_ext hM5 hx6
        have hG6 := gk_ext hx6 hG5
        have hS6 := vs_new hS5 hx6
        have hne6 : ∀ k, mD cp g k → B k ≠ H5.size := fun k hk => Nat.ne_of_lt (mp_lt hM5 hk)
        have hda6 := hD.1 _ hS5.1
        refine lv_dup hx hb dX11_procedure_69 rfl ?_
        refine lv_iload_n hx hb dX11_procedure_70 rfl (lv_at hl 1 rfl) ?_
        refine lv_iload_n hx hb dX11_procedure_71 rfl (lv_at hl 2 rfl) ?_
        refine mw_I (As := [.int i, .int s]) (rest := [.ref H5.size, .ref (B 6)]) S hD hGX hG6 hS6 (c_X10_init l G H6 H5.size i s (Nat.le_trans (hD.2 _ (hD.1 _ (Nat.le_refl _))) hS6.1) (hD.2 _ hda6) ha6) (fun q h => h.elim (fun e => by rw [e]; exact hda6) (fun h => hD.1 q (Nat.le_trans hS6.1 h))) gX11_procedure_X10_init rfl ⟨rfl, rfl⟩ w3 w4 w5 rfl nmX10_init ⟨Nat.le_of_ble_eq_true rfl, Nat.le_of_ble_eq_true rfl⟩ rfl hl.1 rfl (Nat.le_of_ble_eq_true rfl) ⟨by show 1 + 1 ≤ 3; omega, by show 3 + 3 ≤ 46; omega⟩ dX11_procedure_72 (fun H7 locs7 v7 hS7 hs7 hP7 hG7 => ?_)
        obtain ⟨hv7, ha7, hla7, hz7, hq7⟩ := hP7
        subst hv7
        have hM7 := mp_kept hM6 (fun k hk => hq7 _ (mp_lt hM6 hk) (hne6 k hk))
        have hlne7 : ∀ k, mD cp g k → B k ≠ H6.size := fun k hk => Nat.ne_of_lt (mp_lt hM6 hk)
        have hlda7 := hD.1 _ hS6.1
        have hol7 := Nat.ne_of_lt (va_at.lt ha6)
        refine W.eq (g2 := F0 mZ 75 ls [.ref H5.size, .ref (B 6)]) rfl ?_
        refine mw_V (As := [.ref H5.size]) (rest := []) S hD hGX hG7 hS7 (c_addP l G hM7 D (dp_le hD hS7.1) hB hcp (hG7.2.2.2.1 0 (by decide)) hG7.2.2.2.2.2.1 H5.size _ ha7 hne6) (fun _ h => h) gX11_procedure_Jx4a65c_add_9ea2d rfl ⟨rfl, rfl⟩ nmJx4a65c_add_9ea2d ⟨Nat.le_of_ble_eq_true rfl, Nat.le_of_ble_eq_true rfl⟩ (rd_rcv hG7.1 (mP_6 hM7) rfl) rfl hl.1 rfl (Nat.le_of_ble_eq_true rfl) ⟨by show 2 + 1 ≤ 3; omega, by show 6 + 40 ≤ 46; omega⟩ dX11_procedure_75 (fun H8 locs8 v8 hS8 hs8 hP8 hG8 => ?_)
        have hlt8 : g 3 < 4 := ne_lt hg3 (by decide) c4
        obtain ⟨hv8, B8, mc8, cp8, hM8, hB8, hcp8, hb8⟩ := mp_addP hM7 hB (fun q hq => hD.1 q (Nat.le_trans hS7.1 hq)) hD.2 (hG7.2.2.2.1 0 (by decide)) hG8.2.2.2.2.2.1 ha7 hla7 hda6 hlda7 hol7 hne6 hlne7 hcp hlt8 (mNr_c (n := 3) p1 (by decide)) ham hP8
        subst hv8
        rw [← hb8] at hl
        refine W.eq (g2 := F0 mZ 78 ls [.int 1]) rfl ?_
        refine lv_pop hx hb dX11_procedure_78 rfl ?_
        refine lv_aload_n hx hb dX11_procedure_79 rfl (lv_at hl 0 rfl) ?_
        refine rd_get (own := RX11) (x := .ref (B8 6)) S hG8.1 iX11 (mP_0 hM8) 7 rfl (by decide) w0 rfl dX11_procedure_80 ?_
        refine rd_V (As := []) (rest := []) (v := some (.int (nI ((gset g 3 (g 3 + 1)) 3)))) S hG8 (c_Jx4a65c_size_8abf5 l G H8 (B8 6) (eA G B8 cp8 6 9) (mc8 6) (nI ((gset g 3 (g 3 + 1)) 3)) (mP_6 hM8)) gX11_procedure_Jx4a65c_size_8abf5 rfl ⟨rfl, rfl⟩ nmJx4a65c_size_8abf5 ⟨Nat.le_of_ble_eq_true rfl, Nat.le_of_ble_eq_true rfl⟩ (rd_rcv hG8.1 (mP_6 hM8) rfl) rfl hl.1 rfl (Nat.le_of_ble_eq_true rfl) ⟨by show 3 ≤ 3; omega, by show 46 ≤ 46; omega⟩ dX11_procedure_83 ?_
        refine W.eq (g2 := F0 mZ 86 ls [.int (nI ((gset g 3 (g 3 + 1)) 3))]) rfl ?_
        refine lv_iconst (v := 1) hx hb dX11_procedure_86 (by decide) ?_
        refine lv_isub hx hb dX11_procedure_87 ?_
        exact mw_iret S hr hlk hS8 ⟨by show 3 ≤ 3; omega, by show 46 ≤ 46; omega⟩ dX11_procedure_88 ⟨0, (by simp [tw3, tw2, tw1, p1, c2, c4]), congrArg (fun z => some (Value.int z)) (by rw [if_pos rfl]; exact pd_s (g 3)), (by rw [if_pos rfl, if_pos rfl]; exact ⟨B8, mc8, cp8, hM8, hB8, hcp8, hb8⟩)⟩
      · refine lv_iconst (v := 1) hx hb dX11_procedure_48 (by decide) ?_
        refine lv_goto (tgt := 53) hx hb dX11_procedure_49 (by decide) ?_
        refine lv_iconst (v := 3) hx hb dX11_procedure_53 (by decide) ?_
        refine mw_V (As := [.int 1, .int 3]) (rest := []) S hD hGX hG3 hS3 (c_X11_refuse l G B 0 mc cp f g H3 hM3 rfl D (dp_le hD hS3.1) hB (True) inferInstance 3 (by decide)) (fun _ h => h) gX11_procedure_X11_refuse rfl ⟨rfl, rfl⟩ nmX11_refuse ⟨Nat.le_of_ble_eq_true rfl, Nat.le_of_ble_eq_true rfl⟩ (rd_rcv hG3.1 (mP_0 hM3) rfl) rfl hl.1 rfl (Nat.le_of_ble_eq_true rfl) ⟨by show 0 + 0 ≤ 3; omega, by show 0 + 0 ≤ 46; omega⟩ dX11_procedure_54 (fun H9 locs9 v9 hS9 hs9 hP9 hG9 => ?_)
        obtain ⟨hv9, hM9⟩ := hP9.1 trivial
        subst hv9
        refine W.eq (g2 := F0 mZ 57 ls [.int 1]) rfl ?_
        refine lv_if_eq (tgt := 62) hx hb dX11_procedure_57 (by decide) (fun c => absurd c (by decide)) (fun _ => ?_)
        refine lv_iconst (v := 0) hx hb dX11_procedure_60 (by decide) ?_
        exact mw_iret S hr hlk hS9 ⟨by show 0 ≤ 3; omega, by show 0 ≤ 46; omega⟩ dX11_procedure_61 ⟨3, (by simp [tw3, tw2, tw1, p1, c2, c4]), congrArg (fun z => some (Value.int z)) (by exact (if_neg (by decide)).symm), (by rw [if_neg (by decide), if_neg (by decide)]; exact ⟨B, mc, cp, hM9, hB, hcp, rfl⟩)⟩
    · have c2 := b2i_z.mp c2
      refine lv_iconst (v := 1) hx hb dX11_procedure_24 (by decide) ?_
      refine lv_goto (tgt := 29) hx hb dX11_procedure_25 (by decide) ?_
      refine lv_iconst (v := 2) hx hb dX11_procedure_29 (by decide) ?_
      refine mw_V (As := [.int 1, .int 2]) (rest := []) S hD hGX hG1 hS1 (c_X11_refuse l G B 0 mc cp f g H1 hM1 rfl D (dp_le hD hS1.1) hB (True) inferInstance 2 (by decide)) (fun _ h => h) gX11_procedure_X11_refuse rfl ⟨rfl, rfl⟩ nmX11_refuse ⟨Nat.le_of_ble_eq_true rfl, Nat.le_of_ble_eq_true rfl⟩ (rd_rcv hG1.1 (mP_0 hM1) rfl) rfl hl.1 rfl (Nat.le_of_ble_eq_true rfl) ⟨by show 0 + 0 ≤ 3; omega, by show 0 + 0 ≤ 46; omega⟩ dX11_procedure_30 (fun H10 locs10 v10 hS10 hs10 hP10 hG10 => ?_)
      obtain ⟨hv10, hM10⟩ := hP10.1 trivial
      subst hv10
      refine W.eq (g2 := F0 mZ 33 ls [.int 1]) rfl ?_
      refine lv_if_ne (tgt := 60) hx hb dX11_procedure_33 (by decide) (fun _ => ?_) (fun c => absurd c (by decide))
      refine lv_iconst (v := 0) hx hb dX11_procedure_60 (by decide) ?_
      exact mw_iret S hr hlk hS10 ⟨by show 0 ≤ 3; omega, by show 0 ≤ 46; omega⟩ dX11_procedure_61 ⟨2, (by simp [tw3, tw2, tw1, p1, c2]), congrArg (fun z => some (Value.int z)) (by exact (if_neg (by decide)).symm), (by rw [if_neg (by decide), if_neg (by decide)]; exact ⟨B, mc, cp, hM10, hB, hcp, rfl⟩)⟩

theorem nmX11_notice : nmV yX11_notice RX11 5 := by decide +kernel

set_option maxHeartbeats 1000000 in
set_option maxRecDepth 100000 in
theorem c_X11_notice (l : Launch) (G : GT) (B : Nat → Nat) (th : Int32) (mc : Nat → Int32) (cp : Nat → Nat) (f : Nat → Nat → Int32) (g : Nat → Nat) (H : Heap) (hM : MP G B th mc cp f g H) (D : Nat → Prop) (hD : DP G D H.size) (hB : DB D B cp g) (hcp : CG cp) (hlt : g 5 < 16) (x y t a b : Int32) : MwV l G D H yX11_notice wsX11_notice { frames := 8, cells := 2, slots := 45, locals := 211 } [.ref (B 0), .int x, .int y, .int t, .int a, .int b] 2 45 (fun v u => v = some (.int (nI (g 5))) ∧ MX G D (B 0) th (noAdd f g x y t a b) (gset g 5 (g 5 + 1)) u) := by
  refine mw_of (cc := cX11_notice) (maxL := 6) (ret := (some .int)) (by decide) rfl (Nat.le_of_ble_eq_true rfl) ?_
  intro pZ eZ sZ mZ bZ meZ cZ ls S hr hlk hl hHs hG hGX
  have S : CallFix pZ mZ cZ cX11_notice 6 sZ _ wsX11_notice RX11 := S
  have hx := S.1
  have hb := S.2.1
  have hown := S.2.2.2.1
  have hts := S.2.2.2.2
  have hl : lv_has ls 6 [(0, .ref (B 0)), (1, .int x), (2, .int y), (3, .int t), (4, .int a), (5, .int b)] := hl
  have w0 := hts (.fieldLink RX11 26 "MinimaRoomModel" "notices" "Ljava/util/ArrayList;") (by decide +kernel)
  have w1 := hts (.classLink RX11 102 RX8) (by decide +kernel)
  have w2 := hts (.instantiable RX8 5) (by decide +kernel)
  have w3 := hts (.initialized RX8) (by decide +kernel)
  have w4 := hts (.methodLink RX11 183 yX8_init) (by decide +kernel)
  have w5 := hts (.instanceMethod yX8_init) (by decide +kernel)
  have iX11 : ∀ w ∈ u_ws RX11 TX11 11, w ∈ wsX11_notice := by decide +kernel
  have iX8 : ∀ w ∈ u_ws RX8 TX8 5, w ∈ wsX11_notice := by decide +kernel
  have hS : va_S D H H [] := va_S.rf
  have hI := hM.1
  have hgb := hI.1.1
  have hg0 := hI.1.2.1
  have hg1 := hI.1.2.2.1
  have hg3 := hI.1.2.2.2.1
  have hg4 := hI.1.2.2.2.2.1
  have hg5 := hI.1.2.2.2.2.2
  refine lv_aload_n hx hb dX11_notice_0 rfl (lv_at hl 0 rfl) ?_
  refine rd_get (own := RX11) (x := .ref (B 7)) S hG.1 iX11 (mP_0 hM) 8 rfl (by decide) w0 rfl dX11_notice_1 ?_
  refine mw_new (fs := [.int 0, .int 0, .int 0, .int 0, .int 0]) (ci := 9) S hG iX8 tyX8 tyX8_ok w1 w2 w3 rfl (fun j hj => match j, hj with | 0, _ => rfl | 1, _ => rfl | 2, _ => rfl | 3, _ => rfl | 4, _ => rfl | _ + 5, h => absurd h (by omega)) ⟨by show 0 + 1 ≤ 2; omega, by show 0 + 5 ≤ 45; omega⟩ dX11_notice_4 (fun H1 ha1 hz1 hx1 => ?_)
  have hM1 := mp_ext hM hx1
  have hG1 := gk_ext hx1 hG
  have hS1 := vs_new hS hx1
  have hne1 : ∀ k, mD cp g k → B k ≠ H.size := fun k hk => Nat.ne_of_lt (mp_lt hM hk)
  have hda1 := hD.1 _ hS.1
  refine lv_dup hx hb dX11_notice_7 rfl ?_
  refine lv_iload_n hx hb dX11_notice_8 rfl (lv_at hl 1 rfl) ?_
  refine lv_iload_n hx hb dX11_notice_9 rfl (lv_at hl 2 rfl) ?_
  refine lv_iload_n hx hb dX11_notice_10 rfl (lv_at hl 3 rfl) ?_
  refine lv_iload hx hb dX11_notice_11 (lv_at hl 4 rfl) ?_
  refine lv_iload hx hb dX11_notice_13 (lv_at hl 5 rfl) ?_
  refine mw_I (As := [.int x, .int y, .int t, .int a, .int b]) (rest := [.ref (H.size), .ref (B 7)]) S hD hGX hG1 hS1 (c_X8_init l G H1 (H.size) x y t a b ha1 (hD.2 _ hda1) (Nat.le_trans (hD.2 _ (hD.1 _ (Nat.le_refl _))) hS1.1)) (fun q h => h.elim (fun e => by rw [e]; exact hda1) (fun h => hD.1 q (Nat.le_trans hS1.1 h))) gX11_notice_X8_init rfl ⟨rfl, rfl⟩ w3 w4 w5 rfl nmX8_init ⟨Nat.le_of_ble_eq_true rfl, Nat.le_of_ble_eq_true rfl⟩ rfl hl.1 rfl (Nat.le_of_ble_eq_true rfl) ⟨by show 1 + 0 ≤ 2; omega, by show 5 + 0 ≤ 45; omega⟩ dX11_notice_15 (fun H2 locs2 v2 hS2 hs2 hP2 hG2 => ?_)
  obtain ⟨hv2, ha2, hz2, hq2⟩ := hP2
  subst hv2
  have hM2 := mp_kept hM1 (fun k hk => hq2 _ (hne1 k hk))
  refine W.eq (g2 := F0 mZ 18 ls [.ref (H.size), .ref (B 7)]) rfl ?_
  refine mw_V (As := [.ref (H.size)]) (rest := []) S hD hGX hG2 hS2 (c_addN l G hM2 D (dp_le hD hS2.1) hB hcp (hG2.2.2.2.1 0 (by decide)) hG2.2.2.2.2.2.1 (H.size) _ ha2 hne1) (fun _ h => h) gX11_notice_Jx4a65c_add_9ea2d rfl ⟨rfl, rfl⟩ nmJx4a65c_add_9ea2d ⟨Nat.le_of_ble_eq_true rfl, Nat.le_of_ble_eq_true rfl⟩ (rd_rcv hG2.1 (mP_7 hM2) rfl) rfl hl.1 rfl (Nat.le_of_ble_eq_true rfl) ⟨by show 1 + 1 ≤ 2; omega, by show 5 + 40 ≤ 45; omega⟩ dX11_notice_18 (fun H3 locs3 v3 hS3 hs3 hP3 hG3 => ?_)
  have hlt3 : g 5 < 16 := hlt
  obtain ⟨hv3, B3, mc3, cp3, hM3, hB3, hcp3, hb3⟩ := mp_addN hM2 hB (fun q hq => hD.1 q (Nat.le_trans hS2.1 hq)) hD.2 (hG2.2.2.2.1 0 (by decide)) hG3.2.2.2.2.2.1 ha2 hda1 hne1 hcp hlt3  hP3
  subst hv3
  rw [← hb3] at hl
  refine W.eq (g2 := F0 mZ 21 ls [.int 1]) rfl ?_
  refine lv_pop hx hb dX11_notice_21 rfl ?_
  refine lv_aload_n hx hb dX11_notice_22 rfl (lv_at hl 0 rfl) ?_
  refine rd_get (own := RX11) (x := .ref (B3 7)) S hG3.1 iX11 (mP_0 hM3) 8 rfl (by decide) w0 rfl dX11_notice_23 ?_
  refine rd_V (As := []) (rest := []) (v := some (.int (nI ((gset g 5 (g 5 + 1)) 5)))) S hG3 (c_Jx4a65c_size_8abf5 l G H3 (B3 7) (eA G B3 cp3 7 10) (mc3 7) (nI ((gset g 5 (g 5 + 1)) 5)) (mP_7 hM3)) gX11_notice_Jx4a65c_size_8abf5 rfl ⟨rfl, rfl⟩ nmJx4a65c_size_8abf5 ⟨Nat.le_of_ble_eq_true rfl, Nat.le_of_ble_eq_true rfl⟩ (rd_rcv hG3.1 (mP_7 hM3) rfl) rfl hl.1 rfl (Nat.le_of_ble_eq_true rfl) ⟨by show 2 ≤ 2; omega, by show 45 ≤ 45; omega⟩ dX11_notice_26 ?_
  refine W.eq (g2 := F0 mZ 29 ls [.int (nI ((gset g 5 (g 5 + 1)) 5))]) rfl ?_
  refine lv_iconst (v := 1) hx hb dX11_notice_29 (by decide) ?_
  refine lv_isub hx hb dX11_notice_30 ?_
  exact mw_iret S hr hlk hS3 ⟨by show 2 ≤ 2; omega, by show 45 ≤ 45; omega⟩ dX11_notice_31 ⟨congrArg (fun z => some (Value.int z)) (by exact pd_s (g 5)), ⟨B3, mc3, cp3, hM3, hB3, hcp3, hb3⟩⟩

theorem nmX11_raise : nmV yX11_raise RX11 4 := by decide +kernel

set_option maxHeartbeats 1000000 in
set_option maxRecDepth 100000 in
theorem c_X11_raise (l : Launch) (G : GT) (B : Nat → Nat) (th : Int32) (mc : Nat → Int32) (cp : Nat → Nat) (f : Nat → Nat → Int32) (g : Nat → Nat) (H : Heap) (hM : MP G B th mc cp f g H) (D : Nat → Prop) (hD : DP G D H.size) (hB : DB D B cp g) (hcp : CG cp) (i r a b : Int32) : MwV l G D H yX11_raise wsX11_raise { frames := 9, cells := 2, slots := 45, locals := 236 } [.ref (B 0), .int i, .int r, .int a, .int b] 2 45 (fun v u => ∃ mt : Int32, mt = tw3 (mNx i (g 3) = true) (¬ inB r 1 500 = true ∨ mNT g a b = true) (mFu g = true) ∧ v = some (.int (if mt = 0 then nI (g 5) else 0)) ∧ MX G D (B 0) mt (if mt = 0 then noAdd f g 0 i r a b else f) (if mt = 0 then gset g 5 (g 5 + 1) else g) u) := by
  refine mw_of (cc := cX11_raise) (maxL := 5) (ret := (some .int)) (by decide) rfl (Nat.le_of_ble_eq_true rfl) ?_
  intro pZ eZ sZ mZ bZ meZ cZ ls S hr hlk hl hHs hG hGX
  have S : CallFix pZ mZ cZ cX11_raise 5 sZ _ wsX11_raise RX11 := S
  have hx := S.1
  have hb := S.2.1
  have hown := S.2.2.2.1
  have hts := S.2.2.2.2
  have hl : lv_has ls 5 [(0, .ref (B 0)), (1, .int i), (2, .int r), (3, .int a), (4, .int b)] := hl
  have hS : va_S D H H [] := va_S.rf
  have hI := hM.1
  have hgb := hI.1.1
  have hg0 := hI.1.2.1
  have hg1 := hI.1.2.2.1
  have hg3 := hI.1.2.2.2.1
  have hg4 := hI.1.2.2.2.2.1
  have hg5 := hI.1.2.2.2.2.2
  refine lv_aload_n hx hb dX11_raise_0 rfl (lv_at hl 0 rfl) ?_
  refine lv_aload_n hx hb dX11_raise_1 rfl (lv_at hl 0 rfl) ?_
  refine lv_iload_n hx hb dX11_raise_2 rfl (lv_at hl 1 rfl) ?_
  refine rd_V (As := [.int i]) (rest := [.ref (B 0)]) (v := some (.int (b2i (mNx i (g 3) = true)))) S hG (c_X11_isNoProcedure l G B th mc cp f g H hM i) gX11_raise_X11_isNoProcedure rfl ⟨rfl, rfl⟩ nmX11_isNoProcedure ⟨Nat.le_of_ble_eq_true rfl, Nat.le_of_ble_eq_true rfl⟩ (rd_rcv hG.1 (mP_0 hM) rfl) rfl hl.1 rfl (Nat.le_of_ble_eq_true rfl) ⟨by show 0 ≤ 2; omega, by show 0 ≤ 45; omega⟩ dX11_raise_3 ?_
  refine W.eq (g2 := F0 mZ 6 ls [.int (b2i (mNx i (g 3) = true)), .ref (B 0)]) rfl ?_
  refine lv_iconst (v := 1) hx hb dX11_raise_6 (by decide) ?_
  refine mw_V (As := [.int (b2i (mNx i (g 3) = true)), .int 1]) (rest := []) S hD hGX hG hS (c_X11_start l G B th mc cp f g H hM D (dp_le hD hS.1) hB (mNx i (g 3) = true) inferInstance 1 (by decide)) (fun _ h => h) gX11_raise_X11_start rfl ⟨rfl, rfl⟩ nmX11_start ⟨Nat.le_of_ble_eq_true rfl, Nat.le_of_ble_eq_true rfl⟩ (rd_rcv hG.1 (mP_0 hM) rfl) rfl hl.1 rfl (Nat.le_of_ble_eq_true rfl) ⟨by show 0 + 0 ≤ 2; omega, by show 0 + 0 ≤ 45; omega⟩ dX11_raise_7 (fun H1 locs1 v1 hS1 hs1 hP1 hG1 => ?_)
  by_cases p1 : mNx i (g 3) = true
  · obtain ⟨hv1, hM1⟩ := hP1.1 p1
    subst hv1
    refine W.eq (g2 := F0 mZ 10 ls [.int 1]) rfl ?_
    refine lv_if_ne (tgt := 59) hx hb dX11_raise_10 (by decide) (fun _ => ?_) (fun c => absurd c (by decide))
    refine lv_iconst (v := 0) hx hb dX11_raise_59 (by decide) ?_
    refine lv_goto (tgt := 73) hx hb dX11_raise_60 (by decide) ?_
    exact mw_iret S hr hlk hS1 ⟨by show 0 ≤ 2; omega, by show 0 ≤ 45; omega⟩ dX11_raise_73 ⟨1, (by simp [tw3, tw2, tw1, p1]), congrArg (fun z => some (Value.int z)) (by exact (if_neg (by decide)).symm), (by rw [if_neg (by decide), if_neg (by decide)]; exact ⟨B, mc, cp, hM1, hB, hcp, rfl⟩)⟩
  · obtain ⟨hv1, hM1⟩ := hP1.2 p1
    subst hv1
    refine W.eq (g2 := F0 mZ 10 ls [.int 0]) rfl ?_
    refine lv_if_ne (tgt := 59) hx hb dX11_raise_10 (by decide) (fun c => absurd (by decide) c) (fun _ => ?_)
    refine lv_aload_n hx hb dX11_raise_13 rfl (lv_at hl 0 rfl) ?_
    refine lv_iload_n hx hb dX11_raise_14 rfl (lv_at hl 2 rfl) ?_
    refine lv_iconst (v := 1) hx hb dX11_raise_15 (by decide) ?_
    refine lv_sipush (v := 500) hx hb dX11_raise_16 (by decide) ?_
    refine rd_S (As := [.int r, .int 1, .int 500]) (rest := [.ref (B 0)]) (v := some (.int (b2i (inB r 1 500 = true)))) S hG1 (c_X11_isIn l G H1 r 1 500) gX11_raise_X11_isIn rfl ⟨rfl, rfl⟩ nmX11_isIn ⟨Nat.le_of_ble_eq_true rfl, Nat.le_of_ble_eq_true rfl⟩ rfl hl.1 rfl (Nat.le_of_ble_eq_true rfl) ⟨by show 0 ≤ 2; omega, by show 0 ≤ 45; omega⟩ dX11_raise_19 ?_
    refine W.eq (g2 := F0 mZ 22 ls [.int (b2i (inB r 1 500 = true)), .ref (B 0)]) rfl ?_
    refine lv_if_eq (tgt := 35) hx hb dX11_raise_22 (by decide) (fun c2 => ?_) (fun c2 => ?_)
    · have c2 := b2i_z.mp c2
      refine lv_iconst (v := 1) hx hb dX11_raise_35 (by decide) ?_
      refine lv_goto (tgt := 40) hx hb dX11_raise_36 (by decide) ?_
      refine lv_iconst (v := 2) hx hb dX11_raise_40 (by decide) ?_
      refine mw_V (As := [.int 1, .int 2]) (rest := []) S hD hGX hG1 hS1 (c_X11_refuse l G B 0 mc cp f g H1 hM1 rfl D (dp_le hD hS1.1) hB (True) inferInstance 2 (by decide)) (fun _ h => h) gX11_raise_X11_refuse rfl ⟨rfl, rfl⟩ nmX11_refuse ⟨Nat.le_of_ble_eq_true rfl, Nat.le_of_ble_eq_true rfl⟩ (rd_rcv hG1.1 (mP_0 hM1) rfl) rfl hl.1 rfl (Nat.le_of_ble_eq_true rfl) ⟨by show 0 + 0 ≤ 2; omega, by show 0 + 0 ≤ 45; omega⟩ dX11_raise_41 (fun H3 locs3 v3 hS3 hs3 hP3 hG3 => ?_)
      obtain ⟨hv3, hM3⟩ := hP3.1 trivial
      subst hv3
      refine W.eq (g2 := F0 mZ 44 ls [.int 1]) rfl ?_
      refine lv_if_ne (tgt := 59) hx hb dX11_raise_44 (by decide) (fun _ => ?_) (fun c => absurd c (by decide))
      refine lv_iconst (v := 0) hx hb dX11_raise_59 (by decide) ?_
      refine lv_goto (tgt := 73) hx hb dX11_raise_60 (by decide) ?_
      exact mw_iret S hr hlk hS3 ⟨by show 0 ≤ 2; omega, by show 0 ≤ 45; omega⟩ dX11_raise_73 ⟨2, (by simp [tw3, tw2, tw1, p1, c2]), congrArg (fun z => some (Value.int z)) (by exact (if_neg (by decide)).symm), (by rw [if_neg (by decide), if_neg (by decide)]; exact ⟨B, mc, cp, hM3, hB, hcp, rfl⟩)⟩
    · have c2 := b2i_nz.mp c2
      refine lv_aload_n hx hb dX11_raise_25 rfl (lv_at hl 0 rfl) ?_
      refine lv_iload_n hx hb dX11_raise_26 rfl (lv_at hl 3 rfl) ?_
      refine lv_iload hx hb dX11_raise_27 (lv_at hl 4 rfl) ?_
      refine rd_V (As := [.int a, .int b]) (rest := [.ref (B 0)]) (v := some (.int (b2i (mNT g a b = true)))) S hG1 (c_X11_isNoTime l G B 0 mc cp f g H1 hM1 a b) gX11_raise_X11_isNoTime rfl ⟨rfl, rfl⟩ nmX11_isNoTime ⟨Nat.le_of_ble_eq_true rfl, Nat.le_of_ble_eq_true rfl⟩ (rd_rcv hG1.1 (mP_0 hM1) rfl) rfl hl.1 rfl (Nat.le_of_ble_eq_true rfl) ⟨by show 0 ≤ 2; omega, by show 0 ≤ 45; omega⟩ dX11_raise_29 ?_
      refine W.eq (g2 := F0 mZ 32 ls [.int (b2i (mNT g a b = true)), .ref (B 0)]) rfl ?_
      refine lv_if_eq (tgt := 39) hx hb dX11_raise_32 (by decide) (fun c4 => ?_) (fun c4 => ?_)
      · have c4 := b2i_z.mp c4
        refine lv_iconst (v := 0) hx hb dX11_raise_39 (by decide) ?_
        refine lv_iconst (v := 2) hx hb dX11_raise_40 (by decide) ?_
        refine mw_V (As := [.int 0, .int 2]) (rest := []) S hD hGX hG1 hS1 (c_X11_refuse l G B 0 mc cp f g H1 hM1 rfl D (dp_le hD hS1.1) hB (False) inferInstance 2 (by decide)) (fun _ h => h) gX11_raise_X11_refuse rfl ⟨rfl, rfl⟩ nmX11_refuse ⟨Nat.le_of_ble_eq_true rfl, Nat.le_of_ble_eq_true rfl⟩ (rd_rcv hG1.1 (mP_0 hM1) rfl) rfl hl.1 rfl (Nat.le_of_ble_eq_true rfl) ⟨by show 0 + 0 ≤ 2; omega, by show 0 + 0 ≤ 45; omega⟩ dX11_raise_41 (fun H5 locs5 v5 hS5 hs5 hP5 hG5 => ?_)
        obtain ⟨hv5, hM5⟩ := hP5.2 not_false
        subst hv5
        refine W.eq (g2 := F0 mZ 44 ls [.int 0]) rfl ?_
        refine lv_if_ne (tgt := 59) hx hb dX11_raise_44 (by decide) (fun c => absurd (by decide) c) (fun _ => ?_)
        refine lv_aload_n hx hb dX11_raise_47 rfl (lv_at hl 0 rfl) ?_
        refine lv_aload_n hx hb dX11_raise_48 rfl (lv_at hl 0 rfl) ?_
        refine rd_V (As := []) (rest := [.ref (B 0)]) (v := some (.int (b2i (mFu g = true)))) S hG5 (c_X11_isFull l G B 0 mc cp f g H5 hM5 ) gX11_raise_X11_isFull rfl ⟨rfl, rfl⟩ nmX11_isFull ⟨Nat.le_of_ble_eq_true rfl, Nat.le_of_ble_eq_true rfl⟩ (rd_rcv hG5.1 (mP_0 hM5) rfl) rfl hl.1 rfl (Nat.le_of_ble_eq_true rfl) ⟨by show 0 ≤ 2; omega, by show 0 ≤ 45; omega⟩ dX11_raise_49 ?_
        refine W.eq (g2 := F0 mZ 52 ls [.int (b2i (mFu g = true)), .ref (B 0)]) rfl ?_
        refine lv_iconst (v := 3) hx hb dX11_raise_52 (by decide) ?_
        refine mw_V (As := [.int (b2i (mFu g = true)), .int 3]) (rest := []) S hD hGX hG5 hS5 (c_X11_refuse l G B 0 mc cp f g H5 hM5 rfl D (dp_le hD hS5.1) hB (mFu g = true) inferInstance 3 (by decide)) (fun _ h => h) gX11_raise_X11_refuse rfl ⟨rfl, rfl⟩ nmX11_refuse ⟨Nat.le_of_ble_eq_true rfl, Nat.le_of_ble_eq_true rfl⟩ (rd_rcv hG5.1 (mP_0 hM5) rfl) rfl hl.1 rfl (Nat.le_of_ble_eq_true rfl) ⟨by show 0 + 0 ≤ 2; omega, by show 0 + 0 ≤ 45; omega⟩ dX11_raise_53 (fun H6 locs6 v6 hS6 hs6 hP6 hG6 => ?_)
        by_cases p6 : mFu g = true
        · obtain ⟨hv6, hM6⟩ := hP6.1 p6
          subst hv6
          refine W.eq (g2 := F0 mZ 56 ls [.int 1]) rfl ?_
          refine lv_if_eq (tgt := 63) hx hb dX11_raise_56 (by decide) (fun c => absurd c (by decide)) (fun _ => ?_)
          refine lv_iconst (v := 0) hx hb dX11_raise_59 (by decide) ?_
          refine lv_goto (tgt := 73) hx hb dX11_raise_60 (by decide) ?_
          exact mw_iret S hr hlk hS6 ⟨by show 0 ≤ 2; omega, by show 0 ≤ 45; omega⟩ dX11_raise_73 ⟨3, (by simp [tw3, tw2, tw1, p1, c2, c4, p6]), congrArg (fun z => some (Value.int z)) (by exact (if_neg (by decide)).symm), (by rw [if_neg (by decide), if_neg (by decide)]; exact ⟨B, mc, cp, hM6, hB, hcp, rfl⟩)⟩
        · obtain ⟨hv6, hM6⟩ := hP6.2 p6
          subst hv6
          refine W.eq (g2 := F0 mZ 56 ls [.int 0]) rfl ?_
          refine lv_if_eq (tgt := 63) hx hb dX11_raise_56 (by decide) (fun _ => ?_) (fun c => absurd (by decide) c)
          refine lv_aload_n hx hb dX11_raise_63 rfl (lv_at hl 0 rfl) ?_
          refine lv_iconst (v := 0) hx hb dX11_raise_64 (by decide) ?_
          refine lv_iload_n hx hb dX11_raise_65 rfl (lv_at hl 1 rfl) ?_
          refine lv_iload_n hx hb dX11_raise_66 rfl (lv_at hl 2 rfl) ?_
          refine lv_iload_n hx hb dX11_raise_67 rfl (lv_at hl 3 rfl) ?_
          refine lv_iload hx hb dX11_raise_68 (lv_at hl 4 rfl) ?_
          refine mw_V (As := [.int 0, .int i, .int r, .int a, .int b]) (rest := []) S hD hGX hG6 hS6 (c_X11_notice l G B 0 mc cp f g H6 hM6 D (dp_le hD hS6.1) hB hcp (fu_lt p6 hg5) 0 i r a b) (fun _ h => h) gX11_raise_X11_notice rfl ⟨rfl, rfl⟩ nmX11_notice ⟨Nat.le_of_ble_eq_true rfl, Nat.le_of_ble_eq_true rfl⟩ (rd_rcv hG6.1 (mP_0 hM6) rfl) rfl hl.1 rfl (Nat.le_of_ble_eq_true rfl) ⟨by show 0 + 2 ≤ 2; omega, by show 0 + 45 ≤ 45; omega⟩ dX11_raise_70 (fun H7 locs7 v7 hS7 hs7 hP7 hG7 => ?_)
          obtain ⟨hv7, B7, mc7, cp7, hM7, hB7, hcp7, hb7⟩ := hP7
          subst hv7
          rw [← hb7] at hl
          refine W.eq (g2 := F0 mZ 73 ls [.int (nI (g 5))]) rfl ?_
          exact mw_iret S hr hlk hS7 ⟨by show 2 ≤ 2; omega, by show 45 ≤ 45; omega⟩ dX11_raise_73 ⟨0, (by simp [tw3, tw2, tw1, p1, c2, c4, p6]), congrArg (fun z => some (Value.int z)) (by rw [if_pos rfl]), (by rw [if_pos rfl, if_pos rfl]; exact ⟨B7, mc7, cp7, hM7, hB7, hcp7, hb7⟩)⟩
      · have c4 := b2i_nz.mp c4
        refine lv_iconst (v := 1) hx hb dX11_raise_35 (by decide) ?_
        refine lv_goto (tgt := 40) hx hb dX11_raise_36 (by decide) ?_
        refine lv_iconst (v := 2) hx hb dX11_raise_40 (by decide) ?_
        refine mw_V (As := [.int 1, .int 2]) (rest := []) S hD hGX hG1 hS1 (c_X11_refuse l G B 0 mc cp f g H1 hM1 rfl D (dp_le hD hS1.1) hB (True) inferInstance 2 (by decide)) (fun _ h => h) gX11_raise_X11_refuse rfl ⟨rfl, rfl⟩ nmX11_refuse ⟨Nat.le_of_ble_eq_true rfl, Nat.le_of_ble_eq_true rfl⟩ (rd_rcv hG1.1 (mP_0 hM1) rfl) rfl hl.1 rfl (Nat.le_of_ble_eq_true rfl) ⟨by show 0 + 0 ≤ 2; omega, by show 0 + 0 ≤ 45; omega⟩ dX11_raise_41 (fun H8 locs8 v8 hS8 hs8 hP8 hG8 => ?_)
        obtain ⟨hv8, hM8⟩ := hP8.1 trivial
        subst hv8
        refine W.eq (g2 := F0 mZ 44 ls [.int 1]) rfl ?_
        refine lv_if_ne (tgt := 59) hx hb dX11_raise_44 (by decide) (fun _ => ?_) (fun c => absurd c (by decide))
        refine lv_iconst (v := 0) hx hb dX11_raise_59 (by decide) ?_
        refine lv_goto (tgt := 73) hx hb dX11_raise_60 (by decide) ?_
        exact mw_iret S hr hlk hS8 ⟨by show 0 ≤ 2; omega, by show 0 ≤ 45; omega⟩ dX11_raise_73 ⟨2, (by simp [tw3, tw2, tw1, p1, c2, c4]), congrArg (fun z => some (Value.int z)) (by exact (if_neg (by decide)).symm), (by rw [if_neg (by decide), if_neg (by decide)]; exact ⟨B, mc, cp, hM8, hB, hcp, rfl⟩)⟩

theorem nmX11_out : nmV yX11_out RX11 3 := by decide +kernel

set_option maxHeartbeats 1000000 in
set_option maxRecDepth 100000 in
theorem c_X11_out (l : Launch) (G : GT) (B : Nat → Nat) (th : Int32) (mc : Nat → Int32) (cp : Nat → Nat) (f : Nat → Nat → Int32) (g : Nat → Nat) (H : Heap) (hM : MP G B th mc cp f g H) (D : Nat → Prop) (hD : DP G D H.size) (hB : DB D B cp g) (hcp : CG cp) (i a b : Int32) : MwV l G D H yX11_out wsX11_out { frames := 9, cells := 2, slots := 45, locals := 236 } [.ref (B 0), .int i, .int a, .int b] 2 45 (fun v u => ∃ mt : Int32, mt = tw3 (mNr i 0 2 = true) (mNT g a b = true) (mFu g = true) ∧ v = some (.int (if mt = 0 then nI (g 5) else 0)) ∧ MX G D (B 0) mt (if mt = 0 then noAdd f g 1 i 0 a b else f) (if mt = 0 then gset g 5 (g 5 + 1) else g) u) := by
  refine mw_of (cc := cX11_out) (maxL := 4) (ret := (some .int)) (by decide) rfl (Nat.le_of_ble_eq_true rfl) ?_
  intro pZ eZ sZ mZ bZ meZ cZ ls S hr hlk hl hHs hG hGX
  have S : CallFix pZ mZ cZ cX11_out 4 sZ _ wsX11_out RX11 := S
  have hx := S.1
  have hb := S.2.1
  have hown := S.2.2.2.1
  have hts := S.2.2.2.2
  have hl : lv_has ls 4 [(0, .ref (B 0)), (1, .int i), (2, .int a), (3, .int b)] := hl
  have hS : va_S D H H [] := va_S.rf
  have hI := hM.1
  have hgb := hI.1.1
  have hg0 := hI.1.2.1
  have hg1 := hI.1.2.2.1
  have hg3 := hI.1.2.2.2.1
  have hg4 := hI.1.2.2.2.2.1
  have hg5 := hI.1.2.2.2.2.2
  refine lv_aload_n hx hb dX11_out_0 rfl (lv_at hl 0 rfl) ?_
  refine lv_iload_n hx hb dX11_out_1 rfl (lv_at hl 1 rfl) ?_
  refine rd_S (As := [.int i]) (rest := [.ref (B 0)]) (v := some (.int (b2i (mNr i 0 2 = true)))) S hG (c_X11_isNoAid l G H i) gX11_out_X11_isNoAid rfl ⟨rfl, rfl⟩ nmX11_isNoAid ⟨Nat.le_of_ble_eq_true rfl, Nat.le_of_ble_eq_true rfl⟩ rfl hl.1 rfl (Nat.le_of_ble_eq_true rfl) ⟨by show 0 ≤ 2; omega, by show 0 ≤ 45; omega⟩ dX11_out_2 ?_
  refine W.eq (g2 := F0 mZ 5 ls [.int (b2i (mNr i 0 2 = true)), .ref (B 0)]) rfl ?_
  refine lv_iconst (v := 1) hx hb dX11_out_5 (by decide) ?_
  refine mw_V (As := [.int (b2i (mNr i 0 2 = true)), .int 1]) (rest := []) S hD hGX hG hS (c_X11_start l G B th mc cp f g H hM D (dp_le hD hS.1) hB (mNr i 0 2 = true) inferInstance 1 (by decide)) (fun _ h => h) gX11_out_X11_start rfl ⟨rfl, rfl⟩ nmX11_start ⟨Nat.le_of_ble_eq_true rfl, Nat.le_of_ble_eq_true rfl⟩ (rd_rcv hG.1 (mP_0 hM) rfl) rfl hl.1 rfl (Nat.le_of_ble_eq_true rfl) ⟨by show 0 + 0 ≤ 2; omega, by show 0 + 0 ≤ 45; omega⟩ dX11_out_6 (fun H1 locs1 v1 hS1 hs1 hP1 hG1 => ?_)
  by_cases p1 : mNr i 0 2 = true
  · obtain ⟨hv1, hM1⟩ := hP1.1 p1
    subst hv1
    refine W.eq (g2 := F0 mZ 9 ls [.int 1]) rfl ?_
    refine lv_if_ne (tgt := 38) hx hb dX11_out_9 (by decide) (fun _ => ?_) (fun c => absurd c (by decide))
    refine lv_iconst (v := 0) hx hb dX11_out_38 (by decide) ?_
    refine lv_goto (tgt := 51) hx hb dX11_out_39 (by decide) ?_
    exact mw_iret S hr hlk hS1 ⟨by show 0 ≤ 2; omega, by show 0 ≤ 45; omega⟩ dX11_out_51 ⟨1, (by simp [tw3, tw2, tw1, p1]), congrArg (fun z => some (Value.int z)) (by exact (if_neg (by decide)).symm), (by rw [if_neg (by decide), if_neg (by decide)]; exact ⟨B, mc, cp, hM1, hB, hcp, rfl⟩)⟩
  · obtain ⟨hv1, hM1⟩ := hP1.2 p1
    subst hv1
    refine W.eq (g2 := F0 mZ 9 ls [.int 0]) rfl ?_
    refine lv_if_ne (tgt := 38) hx hb dX11_out_9 (by decide) (fun c => absurd (by decide) c) (fun _ => ?_)
    refine lv_aload_n hx hb dX11_out_12 rfl (lv_at hl 0 rfl) ?_
    refine lv_aload_n hx hb dX11_out_13 rfl (lv_at hl 0 rfl) ?_
    refine lv_iload_n hx hb dX11_out_14 rfl (lv_at hl 2 rfl) ?_
    refine lv_iload_n hx hb dX11_out_15 rfl (lv_at hl 3 rfl) ?_
    refine rd_V (As := [.int a, .int b]) (rest := [.ref (B 0)]) (v := some (.int (b2i (mNT g a b = true)))) S hG1 (c_X11_isNoTime l G B 0 mc cp f g H1 hM1 a b) gX11_out_X11_isNoTime rfl ⟨rfl, rfl⟩ nmX11_isNoTime ⟨Nat.le_of_ble_eq_true rfl, Nat.le_of_ble_eq_true rfl⟩ (rd_rcv hG1.1 (mP_0 hM1) rfl) rfl hl.1 rfl (Nat.le_of_ble_eq_true rfl) ⟨by show 0 ≤ 2; omega, by show 0 ≤ 45; omega⟩ dX11_out_16 ?_
    refine W.eq (g2 := F0 mZ 19 ls [.int (b2i (mNT g a b = true)), .ref (B 0)]) rfl ?_
    refine lv_iconst (v := 2) hx hb dX11_out_19 (by decide) ?_
    refine mw_V (As := [.int (b2i (mNT g a b = true)), .int 2]) (rest := []) S hD hGX hG1 hS1 (c_X11_refuse l G B 0 mc cp f g H1 hM1 rfl D (dp_le hD hS1.1) hB (mNT g a b = true) inferInstance 2 (by decide)) (fun _ h => h) gX11_out_X11_refuse rfl ⟨rfl, rfl⟩ nmX11_refuse ⟨Nat.le_of_ble_eq_true rfl, Nat.le_of_ble_eq_true rfl⟩ (rd_rcv hG1.1 (mP_0 hM1) rfl) rfl hl.1 rfl (Nat.le_of_ble_eq_true rfl) ⟨by show 0 + 0 ≤ 2; omega, by show 0 + 0 ≤ 45; omega⟩ dX11_out_20 (fun H2 locs2 v2 hS2 hs2 hP2 hG2 => ?_)
    by_cases p2 : mNT g a b = true
    · obtain ⟨hv2, hM2⟩ := hP2.1 p2
      subst hv2
      refine W.eq (g2 := F0 mZ 23 ls [.int 1]) rfl ?_
      refine lv_if_ne (tgt := 38) hx hb dX11_out_23 (by decide) (fun _ => ?_) (fun c => absurd c (by decide))
      refine lv_iconst (v := 0) hx hb dX11_out_38 (by decide) ?_
      refine lv_goto (tgt := 51) hx hb dX11_out_39 (by decide) ?_
      exact mw_iret S hr hlk hS2 ⟨by show 0 ≤ 2; omega, by show 0 ≤ 45; omega⟩ dX11_out_51 ⟨2, (by simp [tw3, tw2, tw1, p1, p2]), congrArg (fun z => some (Value.int z)) (by exact (if_neg (by decide)).symm), (by rw [if_neg (by decide), if_neg (by decide)]; exact ⟨B, mc, cp, hM2, hB, hcp, rfl⟩)⟩
    · obtain ⟨hv2, hM2⟩ := hP2.2 p2
      subst hv2
      refine W.eq (g2 := F0 mZ 23 ls [.int 0]) rfl ?_
      refine lv_if_ne (tgt := 38) hx hb dX11_out_23 (by decide) (fun c => absurd (by decide) c) (fun _ => ?_)
      refine lv_aload_n hx hb dX11_out_26 rfl (lv_at hl 0 rfl) ?_
      refine lv_aload_n hx hb dX11_out_27 rfl (lv_at hl 0 rfl) ?_
      refine rd_V (As := []) (rest := [.ref (B 0)]) (v := some (.int (b2i (mFu g = true)))) S hG2 (c_X11_isFull l G B 0 mc cp f g H2 hM2 ) gX11_out_X11_isFull rfl ⟨rfl, rfl⟩ nmX11_isFull ⟨Nat.le_of_ble_eq_true rfl, Nat.le_of_ble_eq_true rfl⟩ (rd_rcv hG2.1 (mP_0 hM2) rfl) rfl hl.1 rfl (Nat.le_of_ble_eq_true rfl) ⟨by show 0 ≤ 2; omega, by show 0 ≤ 45; omega⟩ dX11_out_28 ?_
      refine W.eq (g2 := F0 mZ 31 ls [.int (b2i (mFu g = true)), .ref (B 0)]) rfl ?_
      refine lv_iconst (v := 3) hx hb dX11_out_31 (by decide) ?_
      refine mw_V (As := [.int (b2i (mFu g = true)), .int 3]) (rest := []) S hD hGX hG2 hS2 (c_X11_refuse l G B 0 mc cp f g H2 hM2 rfl D (dp_le hD hS2.1) hB (mFu g = true) inferInstance 3 (by decide)) (fun _ h => h) gX11_out_X11_refuse rfl ⟨rfl, rfl⟩ nmX11_refuse ⟨Nat.le_of_ble_eq_true rfl, Nat.le_of_ble_eq_true rfl⟩ (rd_rcv hG2.1 (mP_0 hM2) rfl) rfl hl.1 rfl (Nat.le_of_ble_eq_true rfl) ⟨by show 0 + 0 ≤ 2; omega, by show 0 + 0 ≤ 45; omega⟩ dX11_out_32 (fun H3 locs3 v3 hS3 hs3 hP3 hG3 => ?_)
      by_cases p3 : mFu g = true
      · obtain ⟨hv3, hM3⟩ := hP3.1 p3
        subst hv3
        refine W.eq (g2 := F0 mZ 35 ls [.int 1]) rfl ?_
        refine lv_if_eq (tgt := 42) hx hb dX11_out_35 (by decide) (fun c => absurd c (by decide)) (fun _ => ?_)
        refine lv_iconst (v := 0) hx hb dX11_out_38 (by decide) ?_
        refine lv_goto (tgt := 51) hx hb dX11_out_39 (by decide) ?_
        exact mw_iret S hr hlk hS3 ⟨by show 0 ≤ 2; omega, by show 0 ≤ 45; omega⟩ dX11_out_51 ⟨3, (by simp [tw3, tw2, tw1, p1, p2, p3]), congrArg (fun z => some (Value.int z)) (by exact (if_neg (by decide)).symm), (by rw [if_neg (by decide), if_neg (by decide)]; exact ⟨B, mc, cp, hM3, hB, hcp, rfl⟩)⟩
      · obtain ⟨hv3, hM3⟩ := hP3.2 p3
        subst hv3
        refine W.eq (g2 := F0 mZ 35 ls [.int 0]) rfl ?_
        refine lv_if_eq (tgt := 42) hx hb dX11_out_35 (by decide) (fun _ => ?_) (fun c => absurd (by decide) c)
        refine lv_aload_n hx hb dX11_out_42 rfl (lv_at hl 0 rfl) ?_
        refine lv_iconst (v := 1) hx hb dX11_out_43 (by decide) ?_
        refine lv_iload_n hx hb dX11_out_44 rfl (lv_at hl 1 rfl) ?_
        refine lv_iconst (v := 0) hx hb dX11_out_45 (by decide) ?_
        refine lv_iload_n hx hb dX11_out_46 rfl (lv_at hl 2 rfl) ?_
        refine lv_iload_n hx hb dX11_out_47 rfl (lv_at hl 3 rfl) ?_
        refine mw_V (As := [.int 1, .int i, .int 0, .int a, .int b]) (rest := []) S hD hGX hG3 hS3 (c_X11_notice l G B 0 mc cp f g H3 hM3 D (dp_le hD hS3.1) hB hcp (fu_lt p3 hg5) 1 i 0 a b) (fun _ h => h) gX11_out_X11_notice rfl ⟨rfl, rfl⟩ nmX11_notice ⟨Nat.le_of_ble_eq_true rfl, Nat.le_of_ble_eq_true rfl⟩ (rd_rcv hG3.1 (mP_0 hM3) rfl) rfl hl.1 rfl (Nat.le_of_ble_eq_true rfl) ⟨by show 0 + 2 ≤ 2; omega, by show 0 + 45 ≤ 45; omega⟩ dX11_out_48 (fun H4 locs4 v4 hS4 hs4 hP4 hG4 => ?_)
        obtain ⟨hv4, B4, mc4, cp4, hM4, hB4, hcp4, hb4⟩ := hP4
        subst hv4
        rw [← hb4] at hl
        refine W.eq (g2 := F0 mZ 51 ls [.int (nI (g 5))]) rfl ?_
        exact mw_iret S hr hlk hS4 ⟨by show 2 ≤ 2; omega, by show 45 ≤ 45; omega⟩ dX11_out_51 ⟨0, (by simp [tw3, tw2, tw1, p1, p2, p3]), congrArg (fun z => some (Value.int z)) (by rw [if_pos rfl]), (by rw [if_pos rfl, if_pos rfl]; exact ⟨B4, mc4, cp4, hM4, hB4, hcp4, hb4⟩)⟩

theorem nmX11_close : nmV yX11_close RX11 3 := by decide +kernel

set_option maxHeartbeats 1000000 in
set_option maxRecDepth 100000 in
theorem c_X11_close (l : Launch) (G : GT) (B : Nat → Nat) (th : Int32) (mc : Nat → Int32) (cp : Nat → Nat) (f : Nat → Nat → Int32) (g : Nat → Nat) (H : Heap) (hM : MP G B th mc cp f g H) (D : Nat → Prop) (hD : DP G D H.size) (hB : DB D B cp g) (hcp : CG cp) (i a b : Int32) : MwV l G D H yX11_close wsX11_close { frames := 9, cells := 2, slots := 45, locals := 236 } [.ref (B 0), .int i, .int a, .int b] 2 45 (fun v u => ∃ mt : Int32, mt = tw3 (mNx i (g 3) = true) (mNT g a b = true) (mFu g = true) ∧ v = some (.int (if mt = 0 then nI (g 5) else 0)) ∧ MX G D (B 0) mt (if mt = 0 then noAdd f g 2 i 0 a b else f) (if mt = 0 then gset g 5 (g 5 + 1) else g) u) := by
  refine mw_of (cc := cX11_close) (maxL := 4) (ret := (some .int)) (by decide) rfl (Nat.le_of_ble_eq_true rfl) ?_
  intro pZ eZ sZ mZ bZ meZ cZ ls S hr hlk hl hHs hG hGX
  have S : CallFix pZ mZ cZ cX11_close 4 sZ _ wsX11_close RX11 := S
  have hx := S.1
  have hb := S.2.1
  have hown := S.2.2.2.1
  have hts := S.2.2.2.2
  have hl : lv_has ls 4 [(0, .ref (B 0)), (1, .int i), (2, .int a), (3, .int b)] := hl
  have hS : va_S D H H [] := va_S.rf
  have hI := hM.1
  have hgb := hI.1.1
  have hg0 := hI.1.2.1
  have hg1 := hI.1.2.2.1
  have hg3 := hI.1.2.2.2.1
  have hg4 := hI.1.2.2.2.2.1
  have hg5 := hI.1.2.2.2.2.2
  refine lv_aload_n hx hb dX11_close_0 rfl (lv_at hl 0 rfl) ?_
  refine lv_aload_n hx hb dX11_close_1 rfl (lv_at hl 0 rfl) ?_
  refine lv_iload_n hx hb dX11_close_2 rfl (lv_at hl 1 rfl) ?_
  refine rd_V (As := [.int i]) (rest := [.ref (B 0)]) (v := some (.int (b2i (mNx i (g 3) = true)))) S hG (c_X11_isNoProcedure l G B th mc cp f g H hM i) gX11_close_X11_isNoProcedure rfl ⟨rfl, rfl⟩ nmX11_isNoProcedure ⟨Nat.le_of_ble_eq_true rfl, Nat.le_of_ble_eq_true rfl⟩ (rd_rcv hG.1 (mP_0 hM) rfl) rfl hl.1 rfl (Nat.le_of_ble_eq_true rfl) ⟨by show 0 ≤ 2; omega, by show 0 ≤ 45; omega⟩ dX11_close_3 ?_
  refine W.eq (g2 := F0 mZ 6 ls [.int (b2i (mNx i (g 3) = true)), .ref (B 0)]) rfl ?_
  refine lv_iconst (v := 1) hx hb dX11_close_6 (by decide) ?_
  refine mw_V (As := [.int (b2i (mNx i (g 3) = true)), .int 1]) (rest := []) S hD hGX hG hS (c_X11_start l G B th mc cp f g H hM D (dp_le hD hS.1) hB (mNx i (g 3) = true) inferInstance 1 (by decide)) (fun _ h => h) gX11_close_X11_start rfl ⟨rfl, rfl⟩ nmX11_start ⟨Nat.le_of_ble_eq_true rfl, Nat.le_of_ble_eq_true rfl⟩ (rd_rcv hG.1 (mP_0 hM) rfl) rfl hl.1 rfl (Nat.le_of_ble_eq_true rfl) ⟨by show 0 + 0 ≤ 2; omega, by show 0 + 0 ≤ 45; omega⟩ dX11_close_7 (fun H1 locs1 v1 hS1 hs1 hP1 hG1 => ?_)
  by_cases p1 : mNx i (g 3) = true
  · obtain ⟨hv1, hM1⟩ := hP1.1 p1
    subst hv1
    refine W.eq (g2 := F0 mZ 10 ls [.int 1]) rfl ?_
    refine lv_if_ne (tgt := 39) hx hb dX11_close_10 (by decide) (fun _ => ?_) (fun c => absurd c (by decide))
    refine lv_iconst (v := 0) hx hb dX11_close_39 (by decide) ?_
    refine lv_goto (tgt := 52) hx hb dX11_close_40 (by decide) ?_
    exact mw_iret S hr hlk hS1 ⟨by show 0 ≤ 2; omega, by show 0 ≤ 45; omega⟩ dX11_close_52 ⟨1, (by simp [tw3, tw2, tw1, p1]), congrArg (fun z => some (Value.int z)) (by exact (if_neg (by decide)).symm), (by rw [if_neg (by decide), if_neg (by decide)]; exact ⟨B, mc, cp, hM1, hB, hcp, rfl⟩)⟩
  · obtain ⟨hv1, hM1⟩ := hP1.2 p1
    subst hv1
    refine W.eq (g2 := F0 mZ 10 ls [.int 0]) rfl ?_
    refine lv_if_ne (tgt := 39) hx hb dX11_close_10 (by decide) (fun c => absurd (by decide) c) (fun _ => ?_)
    refine lv_aload_n hx hb dX11_close_13 rfl (lv_at hl 0 rfl) ?_
    refine lv_aload_n hx hb dX11_close_14 rfl (lv_at hl 0 rfl) ?_
    refine lv_iload_n hx hb dX11_close_15 rfl (lv_at hl 2 rfl) ?_
    refine lv_iload_n hx hb dX11_close_16 rfl (lv_at hl 3 rfl) ?_
    refine rd_V (As := [.int a, .int b]) (rest := [.ref (B 0)]) (v := some (.int (b2i (mNT g a b = true)))) S hG1 (c_X11_isNoTime l G B 0 mc cp f g H1 hM1 a b) gX11_close_X11_isNoTime rfl ⟨rfl, rfl⟩ nmX11_isNoTime ⟨Nat.le_of_ble_eq_true rfl, Nat.le_of_ble_eq_true rfl⟩ (rd_rcv hG1.1 (mP_0 hM1) rfl) rfl hl.1 rfl (Nat.le_of_ble_eq_true rfl) ⟨by show 0 ≤ 2; omega, by show 0 ≤ 45; omega⟩ dX11_close_17 ?_
    refine W.eq (g2 := F0 mZ 20 ls [.int (b2i (mNT g a b = true)), .ref (B 0)]) rfl ?_
    refine lv_iconst (v := 2) hx hb dX11_close_20 (by decide) ?_
    refine mw_V (As := [.int (b2i (mNT g a b = true)), .int 2]) (rest := []) S hD hGX hG1 hS1 (c_X11_refuse l G B 0 mc cp f g H1 hM1 rfl D (dp_le hD hS1.1) hB (mNT g a b = true) inferInstance 2 (by decide)) (fun _ h => h) gX11_close_X11_refuse rfl ⟨rfl, rfl⟩ nmX11_refuse ⟨Nat.le_of_ble_eq_true rfl, Nat.le_of_ble_eq_true rfl⟩ (rd_rcv hG1.1 (mP_0 hM1) rfl) rfl hl.1 rfl (Nat.le_of_ble_eq_true rfl) ⟨by show 0 + 0 ≤ 2; omega, by show 0 + 0 ≤ 45; omega⟩ dX11_close_21 (fun H2 locs2 v2 hS2 hs2 hP2 hG2 => ?_)
    by_cases p2 : mNT g a b = true
    · obtain ⟨hv2, hM2⟩ := hP2.1 p2
      subst hv2
      refine W.eq (g2 := F0 mZ 24 ls [.int 1]) rfl ?_
      refine lv_if_ne (tgt := 39) hx hb dX11_close_24 (by decide) (fun _ => ?_) (fun c => absurd c (by decide))
      refine lv_iconst (v := 0) hx hb dX11_close_39 (by decide) ?_
      refine lv_goto (tgt := 52) hx hb dX11_close_40 (by decide) ?_
      exact mw_iret S hr hlk hS2 ⟨by show 0 ≤ 2; omega, by show 0 ≤ 45; omega⟩ dX11_close_52 ⟨2, (by simp [tw3, tw2, tw1, p1, p2]), congrArg (fun z => some (Value.int z)) (by exact (if_neg (by decide)).symm), (by rw [if_neg (by decide), if_neg (by decide)]; exact ⟨B, mc, cp, hM2, hB, hcp, rfl⟩)⟩
    · obtain ⟨hv2, hM2⟩ := hP2.2 p2
      subst hv2
      refine W.eq (g2 := F0 mZ 24 ls [.int 0]) rfl ?_
      refine lv_if_ne (tgt := 39) hx hb dX11_close_24 (by decide) (fun c => absurd (by decide) c) (fun _ => ?_)
      refine lv_aload_n hx hb dX11_close_27 rfl (lv_at hl 0 rfl) ?_
      refine lv_aload_n hx hb dX11_close_28 rfl (lv_at hl 0 rfl) ?_
      refine rd_V (As := []) (rest := [.ref (B 0)]) (v := some (.int (b2i (mFu g = true)))) S hG2 (c_X11_isFull l G B 0 mc cp f g H2 hM2 ) gX11_close_X11_isFull rfl ⟨rfl, rfl⟩ nmX11_isFull ⟨Nat.le_of_ble_eq_true rfl, Nat.le_of_ble_eq_true rfl⟩ (rd_rcv hG2.1 (mP_0 hM2) rfl) rfl hl.1 rfl (Nat.le_of_ble_eq_true rfl) ⟨by show 0 ≤ 2; omega, by show 0 ≤ 45; omega⟩ dX11_close_29 ?_
      refine W.eq (g2 := F0 mZ 32 ls [.int (b2i (mFu g = true)), .ref (B 0)]) rfl ?_
      refine lv_iconst (v := 3) hx hb dX11_close_32 (by decide) ?_
      refine mw_V (As := [.int (b2i (mFu g = true)), .int 3]) (rest := []) S hD hGX hG2 hS2 (c_X11_refuse l G B 0 mc cp f g H2 hM2 rfl D (dp_le hD hS2.1) hB (mFu g = true) inferInstance 3 (by decide)) (fun _ h => h) gX11_close_X11_refuse rfl ⟨rfl, rfl⟩ nmX11_refuse ⟨Nat.le_of_ble_eq_true rfl, Nat.le_of_ble_eq_true rfl⟩ (rd_rcv hG2.1 (mP_0 hM2) rfl) rfl hl.1 rfl (Nat.le_of_ble_eq_true rfl) ⟨by show 0 + 0 ≤ 2; omega, by show 0 + 0 ≤ 45; omega⟩ dX11_close_33 (fun H3 locs3 v3 hS3 hs3 hP3 hG3 => ?_)
      by_cases p3 : mFu g = true
      · obtain ⟨hv3, hM3⟩ := hP3.1 p3
        subst hv3
        refine W.eq (g2 := F0 mZ 36 ls [.int 1]) rfl ?_
        refine lv_if_eq (tgt := 43) hx hb dX11_close_36 (by decide) (fun c => absurd c (by decide)) (fun _ => ?_)
        refine lv_iconst (v := 0) hx hb dX11_close_39 (by decide) ?_
        refine lv_goto (tgt := 52) hx hb dX11_close_40 (by decide) ?_
        exact mw_iret S hr hlk hS3 ⟨by show 0 ≤ 2; omega, by show 0 ≤ 45; omega⟩ dX11_close_52 ⟨3, (by simp [tw3, tw2, tw1, p1, p2, p3]), congrArg (fun z => some (Value.int z)) (by exact (if_neg (by decide)).symm), (by rw [if_neg (by decide), if_neg (by decide)]; exact ⟨B, mc, cp, hM3, hB, hcp, rfl⟩)⟩
      · obtain ⟨hv3, hM3⟩ := hP3.2 p3
        subst hv3
        refine W.eq (g2 := F0 mZ 36 ls [.int 0]) rfl ?_
        refine lv_if_eq (tgt := 43) hx hb dX11_close_36 (by decide) (fun _ => ?_) (fun c => absurd (by decide) c)
        refine lv_aload_n hx hb dX11_close_43 rfl (lv_at hl 0 rfl) ?_
        refine lv_iconst (v := 2) hx hb dX11_close_44 (by decide) ?_
        refine lv_iload_n hx hb dX11_close_45 rfl (lv_at hl 1 rfl) ?_
        refine lv_iconst (v := 0) hx hb dX11_close_46 (by decide) ?_
        refine lv_iload_n hx hb dX11_close_47 rfl (lv_at hl 2 rfl) ?_
        refine lv_iload_n hx hb dX11_close_48 rfl (lv_at hl 3 rfl) ?_
        refine mw_V (As := [.int 2, .int i, .int 0, .int a, .int b]) (rest := []) S hD hGX hG3 hS3 (c_X11_notice l G B 0 mc cp f g H3 hM3 D (dp_le hD hS3.1) hB hcp (fu_lt p3 hg5) 2 i 0 a b) (fun _ h => h) gX11_close_X11_notice rfl ⟨rfl, rfl⟩ nmX11_notice ⟨Nat.le_of_ble_eq_true rfl, Nat.le_of_ble_eq_true rfl⟩ (rd_rcv hG3.1 (mP_0 hM3) rfl) rfl hl.1 rfl (Nat.le_of_ble_eq_true rfl) ⟨by show 0 + 2 ≤ 2; omega, by show 0 + 45 ≤ 45; omega⟩ dX11_close_49 (fun H4 locs4 v4 hS4 hs4 hP4 hG4 => ?_)
        obtain ⟨hv4, B4, mc4, cp4, hM4, hB4, hcp4, hb4⟩ := hP4
        subst hv4
        rw [← hb4] at hl
        refine W.eq (g2 := F0 mZ 52 ls [.int (nI (g 5))]) rfl ?_
        exact mw_iret S hr hlk hS4 ⟨by show 2 ≤ 2; omega, by show 45 ≤ 45; omega⟩ dX11_close_52 ⟨0, (by simp [tw3, tw2, tw1, p1, p2, p3]), congrArg (fun z => some (Value.int z)) (by rw [if_pos rfl]), (by rw [if_pos rfl, if_pos rfl]; exact ⟨B4, mc4, cp4, hM4, hB4, hcp4, hb4⟩)⟩

theorem nmX11_cancel : nmV yX11_cancel RX11 1 := by decide +kernel

set_option maxHeartbeats 1000000 in
set_option maxRecDepth 100000 in
theorem c_X11_cancel (l : Launch) (G : GT) (B : Nat → Nat) (th : Int32) (mc : Nat → Int32) (cp : Nat → Nat) (f : Nat → Nat → Int32) (g : Nat → Nat) (H : Heap) (hM : MP G B th mc cp f g H) (D : Nat → Prop) (hD : DP G D H.size) (hB : DB D B cp g) (hcp : CG cp) (i : Int32) : MwV l G D H yX11_cancel wsX11_cancel { frames := 9, cells := 2, slots := 45, locals := 236 } [.ref (B 0), .int i] 2 45 (fun v u => ∃ mt : Int32, mt = tw2 (¬ inB i 0 (nI (g 5) - 1) = true) (f 22 (cnt i) = 3 ∨ mFu g = true) ∧ v = some (.int (if mt = 0 then nI (g 5) else 0)) ∧ MX G D (B 0) mt (if mt = 0 then noAdd f g 3 i 0 (nI (g 0)) (-1) else f) (if mt = 0 then gset g 5 (g 5 + 1) else g) u) := by
  refine mw_of (cc := cX11_cancel) (maxL := 2) (ret := (some .int)) (by decide) rfl (Nat.le_of_ble_eq_true rfl) ?_
  intro pZ eZ sZ mZ bZ meZ cZ ls S hr hlk hl hHs hG hGX
  have S : CallFix pZ mZ cZ cX11_cancel 2 sZ _ wsX11_cancel RX11 := S
  have hx := S.1
  have hb := S.2.1
  have hown := S.2.2.2.1
  have hts := S.2.2.2.2
  have hl : lv_has ls 2 [(0, .ref (B 0)), (1, .int i)] := hl
  have w0 := hts (.fieldLink RX11 26 "MinimaRoomModel" "notices" "Ljava/util/ArrayList;") (by decide +kernel)
  have w1 := hts (.classLink RX11 102 "MinimaRoomModel$Notice") (by decide +kernel)
  have w2 := hts (.fieldLink RX11 104 "MinimaRoomModel$Notice" "kind" "I") (by decide +kernel)
  have w3 := hts (.fieldLink RX11 156 "MinimaRoomModel" "now" "I") (by decide +kernel)
  have iX11 : ∀ w ∈ u_ws RX11 TX11 11, w ∈ wsX11_cancel := by decide +kernel
  have iX8 : ∀ w ∈ u_ws RX8 TX8 5, w ∈ wsX11_cancel := by decide +kernel
  have hS : va_S D H H [] := va_S.rf
  have hI := hM.1
  have hgb := hI.1.1
  have hg0 := hI.1.2.1
  have hg1 := hI.1.2.2.1
  have hg3 := hI.1.2.2.2.1
  have hg4 := hI.1.2.2.2.2.1
  have hg5 := hI.1.2.2.2.2.2
  refine lv_aload_n hx hb dX11_cancel_0 rfl (lv_at hl 0 rfl) ?_
  refine lv_iload_n hx hb dX11_cancel_1 rfl (lv_at hl 1 rfl) ?_
  refine lv_iconst (v := 0) hx hb dX11_cancel_2 (by decide) ?_
  refine lv_aload_n hx hb dX11_cancel_3 rfl (lv_at hl 0 rfl) ?_
  refine rd_get (own := RX11) (x := .ref (B 7)) S hG.1 iX11 (mP_0 hM) 8 rfl (by decide) w0 rfl dX11_cancel_4 ?_
  refine rd_V (As := []) (rest := [.int 0, .int i, .ref (B 0)]) (v := some (.int (nI (g 5)))) S hG (c_Jx4a65c_size_8abf5 l G H (B 7) (eA G B cp 7 10) (mc 7) (nI (g 5)) (mP_7 hM)) gX11_cancel_Jx4a65c_size_8abf5 rfl ⟨rfl, rfl⟩ nmJx4a65c_size_8abf5 ⟨Nat.le_of_ble_eq_true rfl, Nat.le_of_ble_eq_true rfl⟩ (rd_rcv hG.1 (mP_7 hM) rfl) rfl hl.1 rfl (Nat.le_of_ble_eq_true rfl) ⟨by show 0 ≤ 2; omega, by show 0 ≤ 45; omega⟩ dX11_cancel_7 ?_
  refine W.eq (g2 := F0 mZ 10 ls [.int (nI (g 5)), .int 0, .int i, .ref (B 0)]) rfl ?_
  refine lv_iconst (v := 1) hx hb dX11_cancel_10 (by decide) ?_
  refine lv_isub hx hb dX11_cancel_11 ?_
  refine rd_S (As := [.int i, .int 0, .int ((nI (g 5)) - 1)]) (rest := [.ref (B 0)]) (v := some (.int (b2i (inB i 0 ((nI (g 5)) - 1) = true)))) S hG (c_X11_isIn l G H i 0 ((nI (g 5)) - 1)) gX11_cancel_X11_isIn rfl ⟨rfl, rfl⟩ nmX11_isIn ⟨Nat.le_of_ble_eq_true rfl, Nat.le_of_ble_eq_true rfl⟩ rfl hl.1 rfl (Nat.le_of_ble_eq_true rfl) ⟨by show 0 ≤ 2; omega, by show 0 ≤ 45; omega⟩ dX11_cancel_12 ?_
  refine W.eq (g2 := F0 mZ 15 ls [.int (b2i (inB i 0 ((nI (g 5)) - 1) = true)), .ref (B 0)]) rfl ?_
  refine lv_if_ne (tgt := 22) hx hb dX11_cancel_15 (by decide) (fun c1 => ?_) (fun c1 => ?_)
  · have c1 := b2i_nz.mp c1
    refine lv_iconst (v := 0) hx hb dX11_cancel_22 (by decide) ?_
    refine lv_iconst (v := 1) hx hb dX11_cancel_23 (by decide) ?_
    refine mw_V (As := [.int 0, .int 1]) (rest := []) S hD hGX hG hS (c_X11_start l G B th mc cp f g H hM D (dp_le hD hS.1) hB (False) inferInstance 1 (by decide)) (fun _ h => h) gX11_cancel_X11_start rfl ⟨rfl, rfl⟩ nmX11_start ⟨Nat.le_of_ble_eq_true rfl, Nat.le_of_ble_eq_true rfl⟩ (rd_rcv hG.1 (mP_0 hM) rfl) rfl hl.1 rfl (Nat.le_of_ble_eq_true rfl) ⟨by show 0 + 0 ≤ 2; omega, by show 0 + 0 ≤ 45; omega⟩ dX11_cancel_24 (fun H2 locs2 v2 hS2 hs2 hP2 hG2 => ?_)
    obtain ⟨hv2, hM2⟩ := hP2.2 not_false
    subst hv2
    refine W.eq (g2 := F0 mZ 27 ls [.int 0]) rfl ?_
    refine lv_if_ne (tgt := 68) hx hb dX11_cancel_27 (by decide) (fun c => absurd (by decide) c) (fun _ => ?_)
    obtain ⟨ki, hki, rfl⟩ := inN_c c1 (by omega)
    have hci : cnt (nI ki) = ki := cnt_nI (by omega)
    refine lv_aload_n hx hb dX11_cancel_30 rfl (lv_at hl 0 rfl) ?_
    refine lv_aload_n hx hb dX11_cancel_31 rfl (lv_at hl 0 rfl) ?_
    refine rd_get (own := RX11) (x := .ref (B 7)) S hG2.1 iX11 (mP_0 hM2) 8 rfl (by decide) w0 rfl dX11_cancel_32 ?_
    refine lv_iload_n hx hb dX11_cancel_35 rfl (lv_at hl 1 rfl) ?_
    refine rd_V (As := [.int (nI ki)]) (rest := [.ref (B 0)]) (v := some (.ref (B (200 + ki)))) S hG2 (c_Jx4a65c_get_915e3 l G H2 (B 7) (eA G B cp 7 10) (mc 7) (g 5) (cp 7) (lsE B 200 (g 5)) (mP_7 hM2) (mP_e7 hM2 (by omega)) hM2.1.2.1.2.2.1 (hM2.1.2.1.2.2.2.2 _) ki (B (200 + ki)) (by omega) (lsE_at (by omega))) gX11_cancel_Jx4a65c_get_915e3 rfl ⟨rfl, rfl⟩ nmJx4a65c_get_915e3 ⟨Nat.le_of_ble_eq_true rfl, Nat.le_of_ble_eq_true rfl⟩ (rd_rcv hG2.1 (mP_7 hM2) rfl) rfl hl.1 rfl (Nat.le_of_ble_eq_true rfl) ⟨by show 0 ≤ 2; omega, by show 0 ≤ 45; omega⟩ dX11_cancel_36 ?_
    refine W.eq (g2 := F0 mZ 39 ls [.ref (B (200 + ki)), .ref (B 0)]) rfl ?_
    refine rd_castS S hG2.1 (mP_no hM2 (i := ki) (by omega)) rfl rfl w1 dX11_cancel_39 ?_
    refine rd_get (own := RX11) (x := .int (f 22 ki)) S hG2.1 iX8 (mP_no hM2 (i := ki) (by omega)) 0 rfl (by decide) w2 rfl dX11_cancel_42 ?_
    refine lv_iconst (v := 3) hx hb dX11_cancel_45 (by decide) ?_
    refine lv_icmp_eq (tgt := 56) hx hb dX11_cancel_46 (by decide) (fun c3 => ?_) (fun c3 => ?_)
    · refine lv_iconst (v := 1) hx hb dX11_cancel_56 (by decide) ?_
      refine lv_goto (tgt := 61) hx hb dX11_cancel_57 (by decide) ?_
      refine lv_iconst (v := 2) hx hb dX11_cancel_61 (by decide) ?_
      refine mw_V (As := [.int 1, .int 2]) (rest := []) S hD hGX hG2 hS2 (c_X11_refuse l G B 0 mc cp f g H2 hM2 rfl D (dp_le hD hS2.1) hB (True) inferInstance 2 (by decide)) (fun _ h => h) gX11_cancel_X11_refuse rfl ⟨rfl, rfl⟩ nmX11_refuse ⟨Nat.le_of_ble_eq_true rfl, Nat.le_of_ble_eq_true rfl⟩ (rd_rcv hG2.1 (mP_0 hM2) rfl) rfl hl.1 rfl (Nat.le_of_ble_eq_true rfl) ⟨by show 0 + 0 ≤ 2; omega, by show 0 + 0 ≤ 45; omega⟩ dX11_cancel_62 (fun H4 locs4 v4 hS4 hs4 hP4 hG4 => ?_)
      obtain ⟨hv4, hM4⟩ := hP4.1 trivial
      subst hv4
      refine W.eq (g2 := F0 mZ 65 ls [.int 1]) rfl ?_
      refine lv_if_eq (tgt := 72) hx hb dX11_cancel_65 (by decide) (fun c => absurd c (by decide)) (fun _ => ?_)
      refine lv_iconst (v := 0) hx hb dX11_cancel_68 (by decide) ?_
      refine lv_goto (tgt := 84) hx hb dX11_cancel_69 (by decide) ?_
      exact mw_iret S hr hlk hS4 ⟨by show 0 ≤ 2; omega, by show 0 ≤ 45; omega⟩ dX11_cancel_84 ⟨2, (by simp [tw3, tw2, tw1, c1, hci, c3]), congrArg (fun z => some (Value.int z)) (by exact (if_neg (by decide)).symm), (by rw [if_neg (by decide), if_neg (by decide)]; exact ⟨B, mc, cp, hM4, hB, hcp, rfl⟩)⟩
    · refine lv_aload_n hx hb dX11_cancel_49 rfl (lv_at hl 0 rfl) ?_
      refine rd_V (As := []) (rest := [.ref (B 0)]) (v := some (.int (b2i (mFu g = true)))) S hG2 (c_X11_isFull l G B 0 mc cp f g H2 hM2 ) gX11_cancel_X11_isFull rfl ⟨rfl, rfl⟩ nmX11_isFull ⟨Nat.le_of_ble_eq_true rfl, Nat.le_of_ble_eq_true rfl⟩ (rd_rcv hG2.1 (mP_0 hM2) rfl) rfl hl.1 rfl (Nat.le_of_ble_eq_true rfl) ⟨by show 0 ≤ 2; omega, by show 0 ≤ 45; omega⟩ dX11_cancel_50 ?_
      refine W.eq (g2 := F0 mZ 53 ls [.int (b2i (mFu g = true)), .ref (B 0)]) rfl ?_
      refine lv_if_eq (tgt := 60) hx hb dX11_cancel_53 (by decide) (fun c5 => ?_) (fun c5 => ?_)
      · have c5 := b2i_z.mp c5
        refine lv_iconst (v := 0) hx hb dX11_cancel_60 (by decide) ?_
        refine lv_iconst (v := 2) hx hb dX11_cancel_61 (by decide) ?_
        refine mw_V (As := [.int 0, .int 2]) (rest := []) S hD hGX hG2 hS2 (c_X11_refuse l G B 0 mc cp f g H2 hM2 rfl D (dp_le hD hS2.1) hB (False) inferInstance 2 (by decide)) (fun _ h => h) gX11_cancel_X11_refuse rfl ⟨rfl, rfl⟩ nmX11_refuse ⟨Nat.le_of_ble_eq_true rfl, Nat.le_of_ble_eq_true rfl⟩ (rd_rcv hG2.1 (mP_0 hM2) rfl) rfl hl.1 rfl (Nat.le_of_ble_eq_true rfl) ⟨by show 0 + 0 ≤ 2; omega, by show 0 + 0 ≤ 45; omega⟩ dX11_cancel_62 (fun H6 locs6 v6 hS6 hs6 hP6 hG6 => ?_)
        obtain ⟨hv6, hM6⟩ := hP6.2 not_false
        subst hv6
        refine W.eq (g2 := F0 mZ 65 ls [.int 0]) rfl ?_
        refine lv_if_eq (tgt := 72) hx hb dX11_cancel_65 (by decide) (fun _ => ?_) (fun c => absurd (by decide) c)
        refine lv_aload_n hx hb dX11_cancel_72 rfl (lv_at hl 0 rfl) ?_
        refine lv_iconst (v := 3) hx hb dX11_cancel_73 (by decide) ?_
        refine lv_iload_n hx hb dX11_cancel_74 rfl (lv_at hl 1 rfl) ?_
        refine lv_iconst (v := 0) hx hb dX11_cancel_75 (by decide) ?_
        refine lv_aload_n hx hb dX11_cancel_76 rfl (lv_at hl 0 rfl) ?_
        refine rd_get (own := RX11) (x := .int (nI (g 0))) S hG6.1 iX11 (mP_0 hM6) 1 rfl (by decide) w3 rfl dX11_cancel_77 ?_
        refine lv_iconst (v := (-1)) hx hb dX11_cancel_80 (by decide) ?_
        refine mw_V (As := [.int 3, .int (nI ki), .int 0, .int (nI (g 0)), .int (-1)]) (rest := []) S hD hGX hG6 hS6 (c_X11_notice l G B 0 mc cp f g H6 hM6 D (dp_le hD hS6.1) hB hcp (fu_lt c5 hg5) 3 (nI ki) 0 (nI (g 0)) (-1)) (fun _ h => h) gX11_cancel_X11_notice rfl ⟨rfl, rfl⟩ nmX11_notice ⟨Nat.le_of_ble_eq_true rfl, Nat.le_of_ble_eq_true rfl⟩ (rd_rcv hG6.1 (mP_0 hM6) rfl) rfl hl.1 rfl (Nat.le_of_ble_eq_true rfl) ⟨by show 0 + 2 ≤ 2; omega, by show 0 + 45 ≤ 45; omega⟩ dX11_cancel_81 (fun H7 locs7 v7 hS7 hs7 hP7 hG7 => ?_)
        obtain ⟨hv7, B7, mc7, cp7, hM7, hB7, hcp7, hb7⟩ := hP7
        subst hv7
        rw [← hb7] at hl
        refine W.eq (g2 := F0 mZ 84 ls [.int (nI (g 5))]) rfl ?_
        exact mw_iret S hr hlk hS7 ⟨by show 2 ≤ 2; omega, by show 45 ≤ 45; omega⟩ dX11_cancel_84 ⟨0, (by simp [tw3, tw2, tw1, c1, hci, c3, c5]), congrArg (fun z => some (Value.int z)) (by rw [if_pos rfl]), (by rw [if_pos rfl, if_pos rfl]; exact ⟨B7, mc7, cp7, hM7, hB7, hcp7, hb7⟩)⟩
      · have c5 := b2i_nz.mp c5
        refine lv_iconst (v := 1) hx hb dX11_cancel_56 (by decide) ?_
        refine lv_goto (tgt := 61) hx hb dX11_cancel_57 (by decide) ?_
        refine lv_iconst (v := 2) hx hb dX11_cancel_61 (by decide) ?_
        refine mw_V (As := [.int 1, .int 2]) (rest := []) S hD hGX hG2 hS2 (c_X11_refuse l G B 0 mc cp f g H2 hM2 rfl D (dp_le hD hS2.1) hB (True) inferInstance 2 (by decide)) (fun _ h => h) gX11_cancel_X11_refuse rfl ⟨rfl, rfl⟩ nmX11_refuse ⟨Nat.le_of_ble_eq_true rfl, Nat.le_of_ble_eq_true rfl⟩ (rd_rcv hG2.1 (mP_0 hM2) rfl) rfl hl.1 rfl (Nat.le_of_ble_eq_true rfl) ⟨by show 0 + 0 ≤ 2; omega, by show 0 + 0 ≤ 45; omega⟩ dX11_cancel_62 (fun H8 locs8 v8 hS8 hs8 hP8 hG8 => ?_)
        obtain ⟨hv8, hM8⟩ := hP8.1 trivial
        subst hv8
        refine W.eq (g2 := F0 mZ 65 ls [.int 1]) rfl ?_
        refine lv_if_eq (tgt := 72) hx hb dX11_cancel_65 (by decide) (fun c => absurd c (by decide)) (fun _ => ?_)
        refine lv_iconst (v := 0) hx hb dX11_cancel_68 (by decide) ?_
        refine lv_goto (tgt := 84) hx hb dX11_cancel_69 (by decide) ?_
        exact mw_iret S hr hlk hS8 ⟨by show 0 ≤ 2; omega, by show 0 ≤ 45; omega⟩ dX11_cancel_84 ⟨2, (by simp [tw3, tw2, tw1, c1, hci, c3, c5]), congrArg (fun z => some (Value.int z)) (by exact (if_neg (by decide)).symm), (by rw [if_neg (by decide), if_neg (by decide)]; exact ⟨B, mc, cp, hM8, hB, hcp, rfl⟩)⟩
  · have c1 := b2i_z.mp c1
    refine lv_iconst (v := 1) hx hb dX11_cancel_18 (by decide) ?_
    refine lv_goto (tgt := 23) hx hb dX11_cancel_19 (by decide) ?_
    refine lv_iconst (v := 1) hx hb dX11_cancel_23 (by decide) ?_
    refine mw_V (As := [.int 1, .int 1]) (rest := []) S hD hGX hG hS (c_X11_start l G B th mc cp f g H hM D (dp_le hD hS.1) hB (True) inferInstance 1 (by decide)) (fun _ h => h) gX11_cancel_X11_start rfl ⟨rfl, rfl⟩ nmX11_start ⟨Nat.le_of_ble_eq_true rfl, Nat.le_of_ble_eq_true rfl⟩ (rd_rcv hG.1 (mP_0 hM) rfl) rfl hl.1 rfl (Nat.le_of_ble_eq_true rfl) ⟨by show 0 + 0 ≤ 2; omega, by show 0 + 0 ≤ 45; omega⟩ dX11_cancel_24 (fun H9 locs9 v9 hS9 hs9 hP9 hG9 => ?_)
    obtain ⟨hv9, hM9⟩ := hP9.1 trivial
    subst hv9
    refine W.eq (g2 := F0 mZ 27 ls [.int 1]) rfl ?_
    refine lv_if_ne (tgt := 68) hx hb dX11_cancel_27 (by decide) (fun _ => ?_) (fun c => absurd c (by decide))
    refine lv_iconst (v := 0) hx hb dX11_cancel_68 (by decide) ?_
    refine lv_goto (tgt := 84) hx hb dX11_cancel_69 (by decide) ?_
    exact mw_iret S hr hlk hS9 ⟨by show 0 ≤ 2; omega, by show 0 ≤ 45; omega⟩ dX11_cancel_84 ⟨1, (by simp [tw3, tw2, tw1, c1]), congrArg (fun z => some (Value.int z)) (by exact (if_neg (by decide)).symm), (by rw [if_neg (by decide), if_neg (by decide)]; exact ⟨B, mc, cp, hM9, hB, hcp, rfl⟩)⟩

