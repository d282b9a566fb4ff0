/-! the reference's public askings -/
def tw1 (p1 : Prop) [Decidable p1] : Int32 := if p1 then 1 else 0
def tw2 (p1 p2 : Prop) [Decidable p1] [Decidable p2] : Int32 := if p1 then 1 else if p2 then 2 else 0
def tw3 (p1 p2 p3 : Prop) [Decidable p1] [Decidable p2] [Decidable p3] : Int32 := if p1 then 1 else if p2 then 2 else if p3 then 3 else 0
theorem inB_c {v M : Int32} {n : Nat} (hM : M.toInt = n) (h : inB v 0 M = true) : ∃ k, k ≤ n ∧ v = nI k := by
  have h2 : ¬ v < 0 ∧ ¬ M < v := of_decide_eq_true h
  exact nI_of2 hM h2.1 (Int32.not_lt.mp h2.2)
theorem inN_c {v : Int32} {n : Nat} (h : inB v 0 (nI n - 1) = true) (hn : n < 65536) : ∃ k, k < n ∧ v = nI k := by
  cases n with
  | zero =>
    exfalso
    have h2 : ¬ v < 0 ∧ ¬ nI 0 - 1 < v := of_decide_eq_true h
    have h3 := Int32.not_lt.mp h2.2
    have h4 := Int32.not_lt.mp h2.1
    have h5 : (nI 0 - 1 : Int32) = -1 := by decide
    rw [h5] at h3
    exact absurd (Int32.le_trans h4 h3) (by decide)
  | succ n =>
    have h5 : nI (n + 1) - 1 = nI n := pk_sub (a := n + 1) (b := 1) (by omega)
    rw [h5] at h
    obtain ⟨k, h1, h2⟩ := inB_c (nI_toInt (by omega)) h
    exact ⟨k, by omega, h2⟩
theorem mNx_c {v : Int32} {n : Nat} (h : ¬ mNx v n = true) (hn : n < 65536) : ∃ k, k < n ∧ v = nI k := by
  refine inN_c (Classical.byContradiction fun h2 => ?_) hn
  exact h (decide_eq_true h2)
theorem mNr_c {v M : Int32} {n : Nat} (h : ¬ mNr v 0 M = true) (hM : M.toInt + 1 = n) : ∃ k, k < n ∧ v = nI k := by
  have h2 : inB v 0 M = true := Classical.byContradiction fun h2 => h (decide_eq_true h2)
  have h3 : ¬ v < 0 ∧ ¬ M < v := of_decide_eq_true h2
  have h4 := Int32.le_iff_toInt_le.mp (Int32.le_trans (Int32.not_lt.mp h3.1) (Int32.not_lt.mp h3.2))
  have h5 : (0 : Int32).toInt = 0 := by decide
  obtain ⟨k, h6, h7⟩ := inB_c (n := M.toInt.toNat) (by omega) h2
  exact ⟨k, by omega, h7⟩
theorem nmX11_isAsked : nmV yX11_isAsked RX11 3 := by decide +kernel

set_option maxHeartbeats 1000000 in
set_option maxRecDepth 100000 in
theorem c_X11_isAsked (l : Launch) (G : GT) (B : Nat → Nat) (th : Int32) (mc : Nat → Int32) (cp : Nat → Nat) (f : Nat → Nat → Int32) (g : Nat → Nat) (H : Heap) (hM : MP G B th mc cp f g H) (D : Nat → Prop) (hD : DP G D H.size) (hB : DB D B cp g) (i d ca : Int32) : MwV l G D H yX11_isAsked wsX11_isAsked { frames := 2, cells := 0, slots := 0, locals := 44 } [.ref (B 0), .int i, .int d, .int ca] 0 0 (fun v t => (mNx i (g 3) = true → v = some (.int 0) ∧ MP G B 1 mc cp f g t) ∧ (¬ mNx i (g 3) = true → (mNr d 0 399 = true ∨ mNr ca 0 3 = true) → v = some (.int 0) ∧ MP G B 2 mc cp f g t) ∧ (¬ mNx i (g 3) = true → ¬ (mNr d 0 399 = true ∨ mNr ca 0 3 = true) → v = some (.int 1) ∧ MP G B 0 mc cp f g t)) := by
  refine mw_of (cc := cX11_isAsked) (maxL := 4) (ret := (some .boolean)) (by decide) rfl (Nat.le_of_ble_eq_true rfl) ?_
  intro pZ eZ sZ mZ bZ meZ cZ ls S hr hlk hl hHs hG hGX
  have S : CallFix pZ mZ cZ cX11_isAsked 4 sZ _ wsX11_isAsked RX11 := S
  have hx := S.1
  have hb := S.2.1
  have hown := S.2.2.2.1
  have hts := S.2.2.2.2
  have hl : lv_has ls 4 [(0, .ref (B 0)), (1, .int i), (2, .int d), (3, .int ca)] := hl
  have hS : va_S D H H [] := va_S.rf
  have hI := hM.1
  have hgb := hI.1.1
  have hg0 := hI.1.2.1
  have hg1 := hI.1.2.2.1
  have hg3 := hI.1.2.2.2.1
  have hg4 := hI.1.2.2.2.2.1
  have hg5 := hI.1.2.2.2.2.2
  refine lv_aload_n hx hb dX11_isAsked_0 rfl (lv_at hl 0 rfl) ?_
  refine lv_aload_n hx hb dX11_isAsked_1 rfl (lv_at hl 0 rfl) ?_
  refine lv_iload_n hx hb dX11_isAsked_2 rfl (lv_at hl 1 rfl) ?_
  refine rd_V (As := [.int i]) (rest := [.ref (B 0)]) (v := some (.int (b2i (mNx i (g 3) = true)))) S hG (c_X11_isNoProcedure l G B th mc cp f g H hM i) gX11_isAsked_X11_isNoProcedure rfl ⟨rfl, rfl⟩ nmX11_isNoProcedure ⟨Nat.le_of_ble_eq_true rfl, Nat.le_of_ble_eq_true rfl⟩ (rd_rcv hG.1 (mP_0 hM) rfl) rfl hl.1 rfl (Nat.le_of_ble_eq_true rfl) ⟨by show 0 ≤ 0; omega, by show 0 ≤ 0; omega⟩ dX11_isAsked_3 ?_
  refine W.eq (g2 := F0 mZ 6 ls [.int (b2i (mNx i (g 3) = true)), .ref (B 0)]) rfl ?_
  refine lv_iconst (v := 1) hx hb dX11_isAsked_6 (by decide) ?_
  refine mw_V (As := [.int (b2i (mNx i (g 3) = true)), .int 1]) (rest := []) S hD hGX hG hS (c_X11_start l G B th mc cp f g H hM D (dp_le hD hS.1) hB (mNx i (g 3) = true) inferInstance 1 (by decide)) (fun _ h => h) gX11_isAsked_X11_start rfl ⟨rfl, rfl⟩ nmX11_start ⟨Nat.le_of_ble_eq_true rfl, Nat.le_of_ble_eq_true rfl⟩ (rd_rcv hG.1 (mP_0 hM) rfl) rfl hl.1 rfl (Nat.le_of_ble_eq_true rfl) ⟨by show 0 + 0 ≤ 0; omega, by show 0 + 0 ≤ 0; omega⟩ dX11_isAsked_7 (fun H1 locs1 v1 hS1 hs1 hP1 hG1 => ?_)
  by_cases p1 : mNx i (g 3) = true
  · obtain ⟨hv1, hM1⟩ := hP1.1 p1
    subst hv1
    refine W.eq (g2 := F0 mZ 10 ls [.int 1]) rfl ?_
    refine lv_if_ne (tgt := 44) hx hb dX11_isAsked_10 (by decide) (fun _ => ?_) (fun c => absurd c (by decide))
    refine lv_iconst (v := 0) hx hb dX11_isAsked_44 (by decide) ?_
    exact mw_zret S hr (by first | rfl | exact nz_b2i _) hlk hS1 ⟨by show 0 ≤ 0; omega, by show 0 ≤ 0; omega⟩ dX11_isAsked_45 ⟨fun h1 => by first | exact ⟨rfl, hM1⟩ | (exfalso; revert h1; simp [p1]), fun h1 h2 => by first | exact ⟨rfl, hM1⟩ | (exfalso; revert h1; simp [p1]; done) | (exfalso; revert h2; simp [p1]), fun h1 h2 => by first | exact ⟨rfl, hM1⟩ | (exfalso; revert h1; simp [p1]; done) | (exfalso; revert h2; simp [p1])⟩
  · obtain ⟨hv1, hM1⟩ := hP1.2 p1
    subst hv1
    refine W.eq (g2 := F0 mZ 10 ls [.int 0]) rfl ?_
    refine lv_if_ne (tgt := 44) hx hb dX11_isAsked_10 (by decide) (fun c => absurd (by decide) c) (fun _ => ?_)
    refine lv_aload_n hx hb dX11_isAsked_13 rfl (lv_at hl 0 rfl) ?_
    refine lv_iload_n hx hb dX11_isAsked_14 rfl (lv_at hl 2 rfl) ?_
    refine rd_S (As := [.int d]) (rest := [.ref (B 0)]) (v := some (.int (b2i (mNr d 0 399 = true)))) S hG1 (c_X11_isNoDay l G H1 d) gX11_isAsked_X11_isNoDay rfl ⟨rfl, rfl⟩ nmX11_isNoDay ⟨Nat.le_of_ble_eq_true rfl, Nat.le_of_ble_eq_true rfl⟩ rfl hl.1 rfl (Nat.le_of_ble_eq_true rfl) ⟨by show 0 ≤ 0; omega, by show 0 ≤ 0; omega⟩ dX11_isAsked_15 ?_
    refine W.eq (g2 := F0 mZ 18 ls [.int (b2i (mNr d 0 399 = true)), .ref (B 0)]) rfl ?_
    refine lv_if_ne (tgt := 28) hx hb dX11_isAsked_18 (by decide) (fun c2 => ?_) (fun c2 => ?_)
    · have c2 := b2i_nz.mp c2
      refine lv_iconst (v := 1) hx hb dX11_isAsked_28 (by decide) ?_
      refine lv_goto (tgt := 33) hx hb dX11_isAsked_29 (by decide) ?_
      refine lv_iconst (v := 2) hx hb dX11_isAsked_33 (by decide) ?_
      refine mw_V (As := [.int 1, .int 2]) (rest := []) S hD hGX hG1 hS1 (c_X11_refuse l G B 0 mc cp f g H1 hM1 rfl D (dp_le hD hS1.1) hB (True) inferInstance 2 (by decide)) (fun _ h => h) gX11_isAsked_X11_refuse rfl ⟨rfl, rfl⟩ nmX11_refuse ⟨Nat.le_of_ble_eq_true rfl, Nat.le_of_ble_eq_true rfl⟩ (rd_rcv hG1.1 (mP_0 hM1) rfl) rfl hl.1 rfl (Nat.le_of_ble_eq_true rfl) ⟨by show 0 + 0 ≤ 0; omega, by show 0 + 0 ≤ 0; omega⟩ dX11_isAsked_34 (fun H3 locs3 v3 hS3 hs3 hP3 hG3 => ?_)
      obtain ⟨hv3, hM3⟩ := hP3.1 trivial
      subst hv3
      refine W.eq (g2 := F0 mZ 37 ls [.int 1]) rfl ?_
      refine lv_if_ne (tgt := 44) hx hb dX11_isAsked_37 (by decide) (fun _ => ?_) (fun c => absurd c (by decide))
      refine lv_iconst (v := 0) hx hb dX11_isAsked_44 (by decide) ?_
      exact mw_zret S hr (by first | rfl | exact nz_b2i _) hlk hS3 ⟨by show 0 ≤ 0; omega, by show 0 ≤ 0; omega⟩ dX11_isAsked_45 ⟨fun h1 => by first | exact ⟨rfl, hM3⟩ | (exfalso; revert h1; simp [p1, c2]), fun h1 h2 => by first | exact ⟨rfl, hM3⟩ | (exfalso; revert h1; simp [p1, c2]; done) | (exfalso; revert h2; simp [p1, c2]), fun h1 h2 => by first | exact ⟨rfl, hM3⟩ | (exfalso; revert h1; simp [p1, c2]; done) | (exfalso; revert h2; simp [p1, c2])⟩
    · have c2 := b2i_z.mp c2
      refine lv_iload_n hx hb dX11_isAsked_21 rfl (lv_at hl 3 rfl) ?_
      refine rd_S (As := [.int ca]) (rest := [.ref (B 0)]) (v := some (.int (b2i (mNr ca 0 3 = true)))) S hG1 (c_X11_isNoCategory l G H1 ca) gX11_isAsked_X11_isNoCategory rfl ⟨rfl, rfl⟩ nmX11_isNoCategory ⟨Nat.le_of_ble_eq_true rfl, Nat.le_of_ble_eq_true rfl⟩ rfl hl.1 rfl (Nat.le_of_ble_eq_true rfl) ⟨by show 0 ≤ 0; omega, by show 0 ≤ 0; omega⟩ dX11_isAsked_22 ?_
      refine W.eq (g2 := F0 mZ 25 ls [.int (b2i (mNr ca 0 3 = true)), .ref (B 0)]) rfl ?_
      refine lv_if_eq (tgt := 32) hx hb dX11_isAsked_25 (by decide) (fun c4 => ?_) (fun c4 => ?_)
      · have c4 := b2i_z.mp c4
        refine lv_iconst (v := 0) hx hb dX11_isAsked_32 (by decide) ?_
        refine lv_iconst (v := 2) hx hb dX11_isAsked_33 (by decide) ?_
        refine mw_V (As := [.int 0, .int 2]) (rest := []) S hD hGX hG1 hS1 (c_X11_refuse l G B 0 mc cp f g H1 hM1 rfl D (dp_le hD hS1.1) hB (False) inferInstance 2 (by decide)) (fun _ h => h) gX11_isAsked_X11_refuse rfl ⟨rfl, rfl⟩ nmX11_refuse ⟨Nat.le_of_ble_eq_true rfl, Nat.le_of_ble_eq_true rfl⟩ (rd_rcv hG1.1 (mP_0 hM1) rfl) rfl hl.1 rfl (Nat.le_of_ble_eq_true rfl) ⟨by show 0 + 0 ≤ 0; omega, by show 0 + 0 ≤ 0; omega⟩ dX11_isAsked_34 (fun H5 locs5 v5 hS5 hs5 hP5 hG5 => ?_)
        obtain ⟨hv5, hM5⟩ := hP5.2 not_false
        subst hv5
        refine W.eq (g2 := F0 mZ 37 ls [.int 0]) rfl ?_
        refine lv_if_ne (tgt := 44) hx hb dX11_isAsked_37 (by decide) (fun c => absurd (by decide) c) (fun _ => ?_)
        refine lv_iconst (v := 1) hx hb dX11_isAsked_40 (by decide) ?_
        refine lv_goto (tgt := 45) hx hb dX11_isAsked_41 (by decide) ?_
        exact mw_zret S hr (by first | rfl | exact nz_b2i _) hlk hS5 ⟨by show 0 ≤ 0; omega, by show 0 ≤ 0; omega⟩ dX11_isAsked_45 ⟨fun h1 => by first | exact ⟨rfl, hM5⟩ | (exfalso; revert h1; simp [p1, c2, c4]), fun h1 h2 => by first | exact ⟨rfl, hM5⟩ | (exfalso; revert h1; simp [p1, c2, c4]; done) | (exfalso; revert h2; simp [p1, c2, c4]), fun h1 h2 => by first | exact ⟨rfl, hM5⟩ | (exfalso; revert h1; simp [p1, c2, c4]; done) | (exfalso; revert h2; simp [p1, c2, c4])⟩
      · have c4 := b2i_nz.mp c4
        refine lv_iconst (v := 1) hx hb dX11_isAsked_28 (by decide) ?_
        refine lv_goto (tgt := 33) hx hb dX11_isAsked_29 (by decide) ?_
        refine lv_iconst (v := 2) hx hb dX11_isAsked_33 (by decide) ?_
        refine mw_V (As := [.int 1, .int 2]) (rest := []) S hD hGX hG1 hS1 (c_X11_refuse l G B 0 mc cp f g H1 hM1 rfl D (dp_le hD hS1.1) hB (True) inferInstance 2 (by decide)) (fun _ h => h) gX11_isAsked_X11_refuse rfl ⟨rfl, rfl⟩ nmX11_refuse ⟨Nat.le_of_ble_eq_true rfl, Nat.le_of_ble_eq_true rfl⟩ (rd_rcv hG1.1 (mP_0 hM1) rfl) rfl hl.1 rfl (Nat.le_of_ble_eq_true rfl) ⟨by show 0 + 0 ≤ 0; omega, by show 0 + 0 ≤ 0; omega⟩ dX11_isAsked_34 (fun H6 locs6 v6 hS6 hs6 hP6 hG6 => ?_)
        obtain ⟨hv6, hM6⟩ := hP6.1 trivial
        subst hv6
        refine W.eq (g2 := F0 mZ 37 ls [.int 1]) rfl ?_
        refine lv_if_ne (tgt := 44) hx hb dX11_isAsked_37 (by decide) (fun _ => ?_) (fun c => absurd c (by decide))
        refine lv_iconst (v := 0) hx hb dX11_isAsked_44 (by decide) ?_
        exact mw_zret S hr (by first | rfl | exact nz_b2i _) hlk hS6 ⟨by show 0 ≤ 0; omega, by show 0 ≤ 0; omega⟩ dX11_isAsked_45 ⟨fun h1 => by first | exact ⟨rfl, hM6⟩ | (exfalso; revert h1; simp [p1, c2, c4]), fun h1 h2 => by first | exact ⟨rfl, hM6⟩ | (exfalso; revert h1; simp [p1, c2, c4]; done) | (exfalso; revert h2; simp [p1, c2, c4]), fun h1 h2 => by first | exact ⟨rfl, hM6⟩ | (exfalso; revert h1; simp [p1, c2, c4]; done) | (exfalso; revert h2; simp [p1, c2, c4])⟩

theorem nmX11_ofObstacle : nmV yX11_ofObstacle RX11 2 := by decide +kernel

set_option maxHeartbeats 1000000 in
set_option maxRecDepth 100000 in
theorem c_X11_ofObstacle (l : Launch) (G : GT) (B : Nat → Nat) (th : Int32) (mc : Nat → Int32) (cp : Nat → Nat) (f : Nat → Nat → Int32) (g : Nat → Nat) (H : Heap) (hM : MP G B th mc cp f g H) (D : Nat → Prop) (hD : DP G D H.size) (hB : DB D B cp g) (i w : Int32) : MwV l G D H yX11_ofObstacle wsX11_ofObstacle { frames := 4, cells := 0, slots := 0, locals := 87 } [.ref (B 0), .int i, .int w] 0 0 (fun v t => ∃ mt : Int32, mt = tw2 (mNx i (g 1) = true) (¬ inB w 0 4 = true) ∧ v = some (.int (if mt = 0 then mOb f (cnt i) w else 0)) ∧ MP G B mt mc cp f g t) := by
  refine mw_of (cc := cX11_ofObstacle) (maxL := 3) (ret := (some .int)) (by decide) rfl (Nat.le_of_ble_eq_true rfl) ?_
  intro pZ eZ sZ mZ bZ meZ cZ ls S hr hlk hl hHs hG hGX
  have S : CallFix pZ mZ cZ cX11_ofObstacle 3 sZ _ wsX11_ofObstacle RX11 := S
  have hx := S.1
  have hb := S.2.1
  have hown := S.2.2.2.1
  have hts := S.2.2.2.2
  have hl : lv_has ls 3 [(0, .ref (B 0)), (1, .int i), (2, .int w)] := hl
  have hS : va_S D H H [] := va_S.rf
  have hI := hM.1
  have hgb := hI.1.1
  have hg0 := hI.1.2.1
  have hg1 := hI.1.2.2.1
  have hg3 := hI.1.2.2.2.1
  have hg4 := hI.1.2.2.2.2.1
  have hg5 := hI.1.2.2.2.2.2
  refine lv_aload_n hx hb dX11_ofObstacle_0 rfl (lv_at hl 0 rfl) ?_
  refine lv_aload_n hx hb dX11_ofObstacle_1 rfl (lv_at hl 0 rfl) ?_
  refine lv_iload_n hx hb dX11_ofObstacle_2 rfl (lv_at hl 1 rfl) ?_
  refine rd_V (As := [.int i]) (rest := [.ref (B 0)]) (v := some (.int (b2i (mNx i (g 1) = true)))) S hG (c_X11_isNoObstacle l G B th mc cp f g H hM i) gX11_ofObstacle_X11_isNoObstacle rfl ⟨rfl, rfl⟩ nmX11_isNoObstacle ⟨Nat.le_of_ble_eq_true rfl, Nat.le_of_ble_eq_true rfl⟩ (rd_rcv hG.1 (mP_0 hM) rfl) rfl hl.1 rfl (Nat.le_of_ble_eq_true rfl) ⟨by show 0 ≤ 0; omega, by show 0 ≤ 0; omega⟩ dX11_ofObstacle_3 ?_
  refine W.eq (g2 := F0 mZ 6 ls [.int (b2i (mNx i (g 1) = true)), .ref (B 0)]) rfl ?_
  refine lv_iconst (v := 1) hx hb dX11_ofObstacle_6 (by decide) ?_
  refine mw_V (As := [.int (b2i (mNx i (g 1) = true)), .int 1]) (rest := []) S hD hGX hG hS (c_X11_start l G B th mc cp f g H hM D (dp_le hD hS.1) hB (mNx i (g 1) = true) inferInstance 1 (by decide)) (fun _ h => h) gX11_ofObstacle_X11_start rfl ⟨rfl, rfl⟩ nmX11_start ⟨Nat.le_of_ble_eq_true rfl, Nat.le_of_ble_eq_true rfl⟩ (rd_rcv hG.1 (mP_0 hM) rfl) rfl hl.1 rfl (Nat.le_of_ble_eq_true rfl) ⟨by show 0 + 0 ≤ 0; omega, by show 0 + 0 ≤ 0; omega⟩ dX11_ofObstacle_7 (fun H1 locs1 v1 hS1 hs1 hP1 hG1 => ?_)
  by_cases p1 : mNx i (g 1) = true
  · obtain ⟨hv1, hM1⟩ := hP1.1 p1
    subst hv1
    refine W.eq (g2 := F0 mZ 10 ls [.int 1]) rfl ?_
    refine lv_if_ne (tgt := 35) hx hb dX11_ofObstacle_10 (by decide) (fun _ => ?_) (fun c => absurd c (by decide))
    refine lv_iconst (v := 0) hx hb dX11_ofObstacle_35 (by decide) ?_
    refine lv_goto (tgt := 45) hx hb dX11_ofObstacle_36 (by decide) ?_
    exact mw_iret S hr hlk hS1 ⟨by show 0 ≤ 0; omega, by show 0 ≤ 0; omega⟩ dX11_ofObstacle_45 ⟨1, (by simp [tw2, tw1, p1]), congrArg (fun z => some (Value.int z)) (by exact (if_neg (by decide)).symm), hM1⟩
  · obtain ⟨hv1, hM1⟩ := hP1.2 p1
    subst hv1
    refine W.eq (g2 := F0 mZ 10 ls [.int 0]) rfl ?_
    refine lv_if_ne (tgt := 35) hx hb dX11_ofObstacle_10 (by decide) (fun c => absurd (by decide) c) (fun _ => ?_)
    refine lv_aload_n hx hb dX11_ofObstacle_13 rfl (lv_at hl 0 rfl) ?_
    refine lv_iload_n hx hb dX11_ofObstacle_14 rfl (lv_at hl 2 rfl) ?_
    refine lv_iconst (v := 0) hx hb dX11_ofObstacle_15 (by decide) ?_
    refine lv_iconst (v := 4) hx hb dX11_ofObstacle_16 (by decide) ?_
    refine rd_S (As := [.int w, .int 0, .int 4]) (rest := [.ref (B 0)]) (v := some (.int (b2i (inB w 0 4 = true)))) S hG1 (c_X11_isIn l G H1 w 0 4) gX11_ofObstacle_X11_isIn rfl ⟨rfl, rfl⟩ nmX11_isIn ⟨Nat.le_of_ble_eq_true rfl, Nat.le_of_ble_eq_true rfl⟩ rfl hl.1 rfl (Nat.le_of_ble_eq_true rfl) ⟨by show 0 ≤ 0; omega, by show 0 ≤ 0; omega⟩ dX11_ofObstacle_17 ?_
    refine W.eq (g2 := F0 mZ 20 ls [.int (b2i (inB w 0 4 = true)), .ref (B 0)]) rfl ?_
    refine lv_if_ne (tgt := 27) hx hb dX11_ofObstacle_20 (by decide) (fun c2 => ?_) (fun c2 => ?_)
    · have c2 := b2i_nz.mp c2
      refine lv_iconst (v := 0) hx hb dX11_ofObstacle_27 (by decide) ?_
      refine lv_iconst (v := 2) hx hb dX11_ofObstacle_28 (by decide) ?_
      refine mw_V (As := [.int 0, .int 2]) (rest := []) S hD hGX hG1 hS1 (c_X11_refuse l G B 0 mc cp f g H1 hM1 rfl D (dp_le hD hS1.1) hB (False) inferInstance 2 (by decide)) (fun _ h => h) gX11_ofObstacle_X11_refuse rfl ⟨rfl, rfl⟩ nmX11_refuse ⟨Nat.le_of_ble_eq_true rfl, Nat.le_of_ble_eq_true rfl⟩ (rd_rcv hG1.1 (mP_0 hM1) rfl) rfl hl.1 rfl (Nat.le_of_ble_eq_true rfl) ⟨by show 0 + 0 ≤ 0; omega, by show 0 + 0 ≤ 0; omega⟩ dX11_ofObstacle_29 (fun H3 locs3 v3 hS3 hs3 hP3 hG3 => ?_)
      obtain ⟨hv3, hM3⟩ := hP3.2 not_false
      subst hv3
      refine W.eq (g2 := F0 mZ 32 ls [.int 0]) rfl ?_
      refine lv_if_eq (tgt := 39) hx hb dX11_ofObstacle_32 (by decide) (fun _ => ?_) (fun c => absurd (by decide) c)
      obtain ⟨ki, hki, rfl⟩ := mNx_c p1 (by omega)
      refine lv_aload_n hx hb dX11_ofObstacle_39 rfl (lv_at hl 0 rfl) ?_
      refine lv_iload_n hx hb dX11_ofObstacle_40 rfl (lv_at hl 1 rfl) ?_
      refine lv_iload_n hx hb dX11_ofObstacle_41 rfl (lv_at hl 2 rfl) ?_
      refine rd_V (As := [.int (nI ki), .int w]) (rest := []) (v := some (.int (mOb f ki w))) S hG3 (c_X11_ofObstacleNow l G B 0 mc cp f g H3 hM3 ki w (by omega)) gX11_ofObstacle_X11_ofObstacleNow rfl ⟨rfl, rfl⟩ nmX11_ofObstacleNow ⟨Nat.le_of_ble_eq_true rfl, Nat.le_of_ble_eq_true rfl⟩ (rd_rcv hG3.1 (mP_0 hM3) rfl) rfl hl.1 rfl (Nat.le_of_ble_eq_true rfl) ⟨by show 0 ≤ 0; omega, by show 0 ≤ 0; omega⟩ dX11_ofObstacle_42 ?_
      refine W.eq (g2 := F0 mZ 45 ls [.int (mOb f ki w)]) rfl ?_
      exact mw_iret S hr hlk hS3 ⟨by show 0 ≤ 0; omega, by show 0 ≤ 0; omega⟩ dX11_ofObstacle_45 ⟨0, (by simp [tw2, tw1, p1, c2]), congrArg (fun z => some (Value.int z)) (by rw [if_pos rfl]; first | (rw [cnt_nI (by omega)]; done) | (rw [cnt_nI (by omega), cnt_nI (by omega)]; done) | rfl | (simp [p1, c2]; done)), hM3⟩
    · have c2 := b2i_z.mp c2
      refine lv_iconst (v := 1) hx hb dX11_ofObstacle_23 (by decide) ?_
      refine lv_goto (tgt := 28) hx hb dX11_ofObstacle_24 (by decide) ?_
      refine lv_iconst (v := 2) hx hb dX11_ofObstacle_28 (by decide) ?_
      refine mw_V (As := [.int 1, .int 2]) (rest := []) S hD hGX hG1 hS1 (c_X11_refuse l G B 0 mc cp f g H1 hM1 rfl D (dp_le hD hS1.1) hB (True) inferInstance 2 (by decide)) (fun _ h => h) gX11_ofObstacle_X11_refuse rfl ⟨rfl, rfl⟩ nmX11_refuse ⟨Nat.le_of_ble_eq_true rfl, Nat.le_of_ble_eq_true rfl⟩ (rd_rcv hG1.1 (mP_0 hM1) rfl) rfl hl.1 rfl (Nat.le_of_ble_eq_true rfl) ⟨by show 0 + 0 ≤ 0; omega, by show 0 + 0 ≤ 0; omega⟩ dX11_ofObstacle_29 (fun H4 locs4 v4 hS4 hs4 hP4 hG4 => ?_)
      obtain ⟨hv4, hM4⟩ := hP4.1 trivial
      subst hv4
      refine W.eq (g2 := F0 mZ 32 ls [.int 1]) rfl ?_
      refine lv_if_eq (tgt := 39) hx hb dX11_ofObstacle_32 (by decide) (fun c => absurd c (by decide)) (fun _ => ?_)
      refine lv_iconst (v := 0) hx hb dX11_ofObstacle_35 (by decide) ?_
      refine lv_goto (tgt := 45) hx hb dX11_ofObstacle_36 (by decide) ?_
      exact mw_iret S hr hlk hS4 ⟨by show 0 ≤ 0; omega, by show 0 ≤ 0; omega⟩ dX11_ofObstacle_45 ⟨2, (by simp [tw2, tw1, p1, c2]), congrArg (fun z => some (Value.int z)) (by exact (if_neg (by decide)).symm), hM4⟩

theorem nmX11_demanded : nmV yX11_demanded RX11 3 := by decide +kernel

set_option maxHeartbeats 1000000 in
set_option maxRecDepth 100000 in
theorem c_X11_demanded (l : Launch) (G : GT) (B : Nat → Nat) (th : Int32) (mc : Nat → Int32) (cp : Nat → Nat) (f : Nat → Nat → Int32) (g : Nat → Nat) (H : Heap) (hM : MP G B th mc cp f g H) (D : Nat → Prop) (hD : DP G D H.size) (hB : DB D B cp g) (i d ca : Int32) : MwV l G D H yX11_demanded wsX11_demanded { frames := 6, cells := 0, slots := 0, locals := 142 } [.ref (B 0), .int i, .int d, .int ca] 0 0 (fun v t => ∃ mt : Int32, mt = tw2 (mNx i (g 3) = true) (mNr d 0 399 = true ∨ mNr ca 0 3 = true) ∧ v = some (.int (if mt = 0 then fCat (mLH f g (cnt i) d (-1)) ca else 0)) ∧ MP G B mt mc cp f g t) := by
  refine mw_of (cc := cX11_demanded) (maxL := 4) (ret := (some .int)) (by decide) rfl (Nat.le_of_ble_eq_true rfl) ?_
  intro pZ eZ sZ mZ bZ meZ cZ ls S hr hlk hl hHs hG hGX
  have S : CallFix pZ mZ cZ cX11_demanded 4 sZ _ wsX11_demanded RX11 := S
  have hx := S.1
  have hb := S.2.1
  have hown := S.2.2.2.1
  have hts := S.2.2.2.2
  have hl : lv_has ls 4 [(0, .ref (B 0)), (1, .int i), (2, .int d), (3, .int ca)] := hl
  have hS : va_S D H H [] := va_S.rf
  have hI := hM.1
  have hgb := hI.1.1
  have hg0 := hI.1.2.1
  have hg1 := hI.1.2.2.1
  have hg3 := hI.1.2.2.2.1
  have hg4 := hI.1.2.2.2.2.1
  have hg5 := hI.1.2.2.2.2.2
  refine lv_aload_n hx hb dX11_demanded_0 rfl (lv_at hl 0 rfl) ?_
  refine lv_iload_n hx hb dX11_demanded_1 rfl (lv_at hl 1 rfl) ?_
  refine lv_iload_n hx hb dX11_demanded_2 rfl (lv_at hl 2 rfl) ?_
  refine lv_iload_n hx hb dX11_demanded_3 rfl (lv_at hl 3 rfl) ?_
  refine mw_V (As := [.int i, .int d, .int ca]) (rest := []) S hD hGX hG hS (c_X11_isAsked l G B th mc cp f g H hM D (dp_le hD hS.1) hB i d ca) (fun _ h => h) gX11_demanded_X11_isAsked rfl ⟨rfl, rfl⟩ nmX11_isAsked ⟨Nat.le_of_ble_eq_true rfl, Nat.le_of_ble_eq_true rfl⟩ (rd_rcv hG.1 (mP_0 hM) rfl) rfl hl.1 rfl (Nat.le_of_ble_eq_true rfl) ⟨by show 0 + 0 ≤ 0; omega, by show 0 + 0 ≤ 0; omega⟩ dX11_demanded_4 (fun H1 locs1 v1 hS1 hs1 hP1 hG1 => ?_)
  by_cases p1a : mNx i (g 3) = true
  · obtain ⟨hv1, hM1⟩ := hP1.1 p1a
    subst hv1
    refine W.eq (g2 := F0 mZ 7 ls [.int 0]) rfl ?_
    refine lv_if_eq (tgt := 23) hx hb dX11_demanded_7 (by decide) (fun _ => ?_) (fun c => absurd (by decide) c)
    refine lv_iconst (v := 0) hx hb dX11_demanded_23 (by decide) ?_
    exact mw_iret S hr hlk hS1 ⟨by show 0 ≤ 0; omega, by show 0 ≤ 0; omega⟩ dX11_demanded_24 ⟨1, (by simp [tw2, tw1, p1a]), congrArg (fun z => some (Value.int z)) (by exact (if_neg (by decide)).symm), hM1⟩
  · by_cases p1b : (mNr d 0 399 = true ∨ mNr ca 0 3 = true)
    · obtain ⟨hv1, hM1⟩ := hP1.2.1 p1a p1b
      subst hv1
      refine W.eq (g2 := F0 mZ 7 ls [.int 0]) rfl ?_
      refine lv_if_eq (tgt := 23) hx hb dX11_demanded_7 (by decide) (fun _ => ?_) (fun c => absurd (by decide) c)
      refine lv_iconst (v := 0) hx hb dX11_demanded_23 (by decide) ?_
      exact mw_iret S hr hlk hS1 ⟨by show 0 ≤ 0; omega, by show 0 ≤ 0; omega⟩ dX11_demanded_24 ⟨2, (by simp [tw2, tw1, p1a, p1b]), congrArg (fun z => some (Value.int z)) (by exact (if_neg (by decide)).symm), hM1⟩
    · obtain ⟨hv1, hM1⟩ := hP1.2.2 p1a p1b
      subst hv1
      refine W.eq (g2 := F0 mZ 7 ls [.int 1]) rfl ?_
      refine lv_if_eq (tgt := 23) hx hb dX11_demanded_7 (by decide) (fun c => absurd c (by decide)) (fun _ => ?_)
      obtain ⟨ki, hki, rfl⟩ := mNx_c p1a (by omega)
      refine lv_aload_n hx hb dX11_demanded_10 rfl (lv_at hl 0 rfl) ?_
      refine lv_iload_n hx hb dX11_demanded_11 rfl (lv_at hl 1 rfl) ?_
      refine lv_iload_n hx hb dX11_demanded_12 rfl (lv_at hl 2 rfl) ?_
      refine rd_V (As := [.int (nI ki), .int d]) (rest := []) (v := some (.int (mLH f g ki d (-1)))) S hG1 (c_X11_demandedNow_ l G B 0 mc cp f g H1 hM1 ki d (by omega)) gX11_demanded_X11_demandedNow_ rfl ⟨rfl, rfl⟩ nmX11_demandedNow_ ⟨Nat.le_of_ble_eq_true rfl, Nat.le_of_ble_eq_true rfl⟩ (rd_rcv hG1.1 (mP_0 hM1) rfl) rfl hl.1 rfl (Nat.le_of_ble_eq_true rfl) ⟨by show 0 ≤ 0; omega, by show 0 ≤ 0; omega⟩ dX11_demanded_13 ?_
      refine W.eq (g2 := F0 mZ 16 ls [.int (mLH f g ki d (-1))]) rfl ?_
      refine lv_iload_n hx hb dX11_demanded_16 rfl (lv_at hl 3 rfl) ?_
      refine rd_S (As := [.int (mLH f g ki d (-1)), .int ca]) (rest := []) (v := some (.int (fCat (mLH f g ki d (-1)) ca))) S hG1 (c_X11_by l G H1 (mLH f g ki d (-1)) ca) gX11_demanded_X11_by rfl ⟨rfl, rfl⟩ nmX11_by ⟨Nat.le_of_ble_eq_true rfl, Nat.le_of_ble_eq_true rfl⟩ rfl hl.1 rfl (Nat.le_of_ble_eq_true rfl) ⟨by show 0 ≤ 0; omega, by show 0 ≤ 0; omega⟩ dX11_demanded_17 ?_
      refine W.eq (g2 := F0 mZ 20 ls [.int (fCat (mLH f g ki d (-1)) ca)]) rfl ?_
      refine lv_goto (tgt := 24) hx hb dX11_demanded_20 (by decide) ?_
      exact mw_iret S hr hlk hS1 ⟨by show 0 ≤ 0; omega, by show 0 ≤ 0; omega⟩ dX11_demanded_24 ⟨0, (by simp [tw2, tw1, p1a, p1b]), congrArg (fun z => some (Value.int z)) (by rw [if_pos rfl]; first | (rw [cnt_nI (by omega)]; done) | (rw [cnt_nI (by omega), cnt_nI (by omega)]; done) | rfl | (simp [p1a, p1b]; done)), hM1⟩

theorem nmX11_decides : nmV yX11_decides RX11 2 := by decide +kernel

set_option maxHeartbeats 1000000 in
set_option maxRecDepth 100000 in
theorem c_X11_decides (l : Launch) (G : GT) (B : Nat → Nat) (th : Int32) (mc : Nat → Int32) (cp : Nat → Nat) (f : Nat → Nat → Int32) (g : Nat → Nat) (H : Heap) (hM : MP G B th mc cp f g H) (D : Nat → Prop) (hD : DP G D H.size) (hB : DB D B cp g) (i d : Int32) : MwV l G D H yX11_decides wsX11_decides { frames := 7, cells := 0, slots := 0, locals := 168 } [.ref (B 0), .int i, .int d] 0 0 (fun v t => ∃ mt : Int32, mt = tw2 (mNx i (g 3) = true) (mNr d 0 399 = true ∨ mNr 0 0 3 = true) ∧ v = some (.int (if mt = 0 then mDc f g (cnt i) d else 0)) ∧ MP G B mt mc cp f g t) := by
  refine mw_of (cc := cX11_decides) (maxL := 3) (ret := (some .int)) (by decide) rfl (Nat.le_of_ble_eq_true rfl) ?_
  intro pZ eZ sZ mZ bZ meZ cZ ls S hr hlk hl hHs hG hGX
  have S : CallFix pZ mZ cZ cX11_decides 3 sZ _ wsX11_decides RX11 := S
  have hx := S.1
  have hb := S.2.1
  have hown := S.2.2.2.1
  have hts := S.2.2.2.2
  have hl : lv_has ls 3 [(0, .ref (B 0)), (1, .int i), (2, .int d)] := hl
  have hS : va_S D H H [] := va_S.rf
  have hI := hM.1
  have hgb := hI.1.1
  have hg0 := hI.1.2.1
  have hg1 := hI.1.2.2.1
  have hg3 := hI.1.2.2.2.1
  have hg4 := hI.1.2.2.2.2.1
  have hg5 := hI.1.2.2.2.2.2
  refine lv_aload_n hx hb dX11_decides_0 rfl (lv_at hl 0 rfl) ?_
  refine lv_iload_n hx hb dX11_decides_1 rfl (lv_at hl 1 rfl) ?_
  refine lv_iload_n hx hb dX11_decides_2 rfl (lv_at hl 2 rfl) ?_
  refine lv_iconst (v := 0) hx hb dX11_decides_3 (by decide) ?_
  refine mw_V (As := [.int i, .int d, .int 0]) (rest := []) S hD hGX hG hS (c_X11_isAsked l G B th mc cp f g H hM D (dp_le hD hS.1) hB i d 0) (fun _ h => h) gX11_decides_X11_isAsked rfl ⟨rfl, rfl⟩ nmX11_isAsked ⟨Nat.le_of_ble_eq_true rfl, Nat.le_of_ble_eq_true rfl⟩ (rd_rcv hG.1 (mP_0 hM) rfl) rfl hl.1 rfl (Nat.le_of_ble_eq_true rfl) ⟨by show 0 + 0 ≤ 0; omega, by show 0 + 0 ≤ 0; omega⟩ dX11_decides_4 (fun H1 locs1 v1 hS1 hs1 hP1 hG1 => ?_)
  by_cases p1a : mNx i (g 3) = true
  · obtain ⟨hv1, hM1⟩ := hP1.1 p1a
    subst hv1
    refine W.eq (g2 := F0 mZ 7 ls [.int 0]) rfl ?_
    refine lv_if_eq (tgt := 19) hx hb dX11_decides_7 (by decide) (fun _ => ?_) (fun c => absurd (by decide) c)
    refine lv_iconst (v := 0) hx hb dX11_decides_19 (by decide) ?_
    exact mw_iret S hr hlk hS1 ⟨by show 0 ≤ 0; omega, by show 0 ≤ 0; omega⟩ dX11_decides_20 ⟨1, (by simp [tw2, tw1, p1a]), congrArg (fun z => some (Value.int z)) (by exact (if_neg (by decide)).symm), hM1⟩
  · by_cases p1b : (mNr d 0 399 = true ∨ mNr 0 0 3 = true)
    · obtain ⟨hv1, hM1⟩ := hP1.2.1 p1a p1b
      subst hv1
      refine W.eq (g2 := F0 mZ 7 ls [.int 0]) rfl ?_
      refine lv_if_eq (tgt := 19) hx hb dX11_decides_7 (by decide) (fun _ => ?_) (fun c => absurd (by decide) c)
      refine lv_iconst (v := 0) hx hb dX11_decides_19 (by decide) ?_
      exact mw_iret S hr hlk hS1 ⟨by show 0 ≤ 0; omega, by show 0 ≤ 0; omega⟩ dX11_decides_20 ⟨2, (by simp [tw2, tw1, p1a, p1b]), congrArg (fun z => some (Value.int z)) (by exact (if_neg (by decide)).symm), hM1⟩
    · obtain ⟨hv1, hM1⟩ := hP1.2.2 p1a p1b
      subst hv1
      refine W.eq (g2 := F0 mZ 7 ls [.int 1]) rfl ?_
      refine lv_if_eq (tgt := 19) hx hb dX11_decides_7 (by decide) (fun c => absurd c (by decide)) (fun _ => ?_)
      obtain ⟨ki, hki, rfl⟩ := mNx_c p1a (by omega)
      refine lv_aload_n hx hb dX11_decides_10 rfl (lv_at hl 0 rfl) ?_
      refine lv_iload_n hx hb dX11_decides_11 rfl (lv_at hl 1 rfl) ?_
      refine lv_iload_n hx hb dX11_decides_12 rfl (lv_at hl 2 rfl) ?_
      refine rd_V (As := [.int (nI ki), .int d]) (rest := []) (v := some (.int (mDc f g ki d))) S hG1 (c_X11_decidesNow l G B 0 mc cp f g H1 hM1 ki d (by omega)) gX11_decides_X11_decidesNow rfl ⟨rfl, rfl⟩ nmX11_decidesNow ⟨Nat.le_of_ble_eq_true rfl, Nat.le_of_ble_eq_true rfl⟩ (rd_rcv hG1.1 (mP_0 hM1) rfl) rfl hl.1 rfl (Nat.le_of_ble_eq_true rfl) ⟨by show 0 ≤ 0; omega, by show 0 ≤ 0; omega⟩ dX11_decides_13 ?_
      refine W.eq (g2 := F0 mZ 16 ls [.int (mDc f g ki d)]) rfl ?_
      refine lv_goto (tgt := 20) hx hb dX11_decides_16 (by decide) ?_
      exact mw_iret S hr hlk hS1 ⟨by show 0 ≤ 0; omega, by show 0 ≤ 0; omega⟩ dX11_decides_20 ⟨0, (by simp [tw2, tw1, p1a, p1b]), congrArg (fun z => some (Value.int z)) (by rw [if_pos rfl]; first | (rw [cnt_nI (by omega)]; done) | (rw [cnt_nI (by omega), cnt_nI (by omega)]; done) | rfl | (simp [p1a, p1b]; done)), hM1⟩

theorem nmX11_chart : nmV yX11_chart RX11 2 := by decide +kernel

set_option maxHeartbeats 1000000 in
set_option maxRecDepth 100000 in
theorem c_X11_chart (l : Launch) (G : GT) (B : Nat → Nat) (th : Int32) (mc : Nat → Int32) (cp : Nat → Nat) (f : Nat → Nat → Int32) (g : Nat → Nat) (H : Heap) (hM : MP G B th mc cp f g H) (D : Nat → Prop) (hD : DP G D H.size) (hB : DB D B cp g) (i d : Int32) : MwV l G D H yX11_chart wsX11_chart { frames := 4, cells := 0, slots := 0, locals := 87 } [.ref (B 0), .int i, .int d] 0 0 (fun v t => ∃ mt : Int32, mt = tw2 (mNx i (g 3) = true) (mNr d 0 399 = true ∨ mNr 0 0 3 = true) ∧ v = some (.int (if mt = 0 then mCh f g (cnt i) d else 0)) ∧ MP G B mt mc cp f g t) := by
  refine mw_of (cc := cX11_chart) (maxL := 3) (ret := (some .int)) (by decide) rfl (Nat.le_of_ble_eq_true rfl) ?_
  intro pZ eZ sZ mZ bZ meZ cZ ls S hr hlk hl hHs hG hGX
  have S : CallFix pZ mZ cZ cX11_chart 3 sZ _ wsX11_chart RX11 := S
  have hx := S.1
  have hb := S.2.1
  have hown := S.2.2.2.1
  have hts := S.2.2.2.2
  have hl : lv_has ls 3 [(0, .ref (B 0)), (1, .int i), (2, .int d)] := hl
  have w0 := hts (.fieldLink RX11 23 "MinimaRoomModel" "procedures" "Ljava/util/ArrayList;") (by decide +kernel)
  have w1 := hts (.classLink RX11 59 "MinimaRoomModel$Procedure") (by decide +kernel)
  have iX11 : ∀ w ∈ u_ws RX11 TX11 11, w ∈ wsX11_chart := by decide +kernel
  have hS : va_S D H H [] := va_S.rf
  have hI := hM.1
  have hgb := hI.1.1
  have hg0 := hI.1.2.1
  have hg1 := hI.1.2.2.1
  have hg3 := hI.1.2.2.2.1
  have hg4 := hI.1.2.2.2.2.1
  have hg5 := hI.1.2.2.2.2.2
  refine lv_aload_n hx hb dX11_chart_0 rfl (lv_at hl 0 rfl) ?_
  refine lv_iload_n hx hb dX11_chart_1 rfl (lv_at hl 1 rfl) ?_
  refine lv_iload_n hx hb dX11_chart_2 rfl (lv_at hl 2 rfl) ?_
  refine lv_iconst (v := 0) hx hb dX11_chart_3 (by decide) ?_
  refine mw_V (As := [.int i, .int d, .int 0]) (rest := []) S hD hGX hG hS (c_X11_isAsked l G B th mc cp f g H hM D (dp_le hD hS.1) hB i d 0) (fun _ h => h) gX11_chart_X11_isAsked rfl ⟨rfl, rfl⟩ nmX11_isAsked ⟨Nat.le_of_ble_eq_true rfl, Nat.le_of_ble_eq_true rfl⟩ (rd_rcv hG.1 (mP_0 hM) rfl) rfl hl.1 rfl (Nat.le_of_ble_eq_true rfl) ⟨by show 0 + 0 ≤ 0; omega, by show 0 + 0 ≤ 0; omega⟩ dX11_chart_4 (fun H1 locs1 v1 hS1 hs1 hP1 hG1 => ?_)
  by_cases p1a : mNx i (g 3) = true
  · obtain ⟨hv1, hM1⟩ := hP1.1 p1a
    subst hv1
    refine W.eq (g2 := F0 mZ 7 ls [.int 0]) rfl ?_
    refine lv_if_eq (tgt := 28) hx hb dX11_chart_7 (by decide) (fun _ => ?_) (fun c => absurd (by decide) c)
    refine lv_iconst (v := 0) hx hb dX11_chart_28 (by decide) ?_
    exact mw_iret S hr hlk hS1 ⟨by show 0 ≤ 0; omega, by show 0 ≤ 0; omega⟩ dX11_chart_29 ⟨1, (by simp [tw2, tw1, p1a]), congrArg (fun z => some (Value.int z)) (by exact (if_neg (by decide)).symm), hM1⟩
  · by_cases p1b : (mNr d 0 399 = true ∨ mNr 0 0 3 = true)
    · obtain ⟨hv1, hM1⟩ := hP1.2.1 p1a p1b
      subst hv1
      refine W.eq (g2 := F0 mZ 7 ls [.int 0]) rfl ?_
      refine lv_if_eq (tgt := 28) hx hb dX11_chart_7 (by decide) (fun _ => ?_) (fun c => absurd (by decide) c)
      refine lv_iconst (v := 0) hx hb dX11_chart_28 (by decide) ?_
      exact mw_iret S hr hlk hS1 ⟨by show 0 ≤ 0; omega, by show 0 ≤ 0; omega⟩ dX11_chart_29 ⟨2, (by simp [tw2, tw1, p1a, p1b]), congrArg (fun z => some (Value.int z)) (by exact (if_neg (by decide)).symm), hM1⟩
    · obtain ⟨hv1, hM1⟩ := hP1.2.2 p1a p1b
      subst hv1
      refine W.eq (g2 := F0 mZ 7 ls [.int 1]) rfl ?_
      refine lv_if_eq (tgt := 28) hx hb dX11_chart_7 (by decide) (fun c => absurd c (by decide)) (fun _ => ?_)
      obtain ⟨ki, hki, rfl⟩ := mNx_c p1a (by omega)
      refine lv_aload_n hx hb dX11_chart_10 rfl (lv_at hl 0 rfl) ?_
      refine rd_get (own := RX11) (x := .ref (B 6)) S hG1.1 iX11 (mP_0 hM1) 7 rfl (by decide) w0 rfl dX11_chart_11 ?_
      refine lv_iload_n hx hb dX11_chart_14 rfl (lv_at hl 1 rfl) ?_
      refine rd_V (As := [.int (nI ki)]) (rest := []) (v := some (.ref (B (40 + ki)))) S hG1 (c_Jx4a65c_get_915e3 l G H1 (B 6) (eA G B cp 6 9) (mc 6) (g 3) (cp 6) (lsE B 40 (g 3)) (mP_6 hM1) (mP_e6 hM1 (by omega)) hM1.1.2.1.2.1 (hM1.1.2.1.2.2.2.2 _) ki (B (40 + ki)) (by omega) (lsE_at (by omega))) gX11_chart_Jx4a65c_get_915e3 rfl ⟨rfl, rfl⟩ nmJx4a65c_get_915e3 ⟨Nat.le_of_ble_eq_true rfl, Nat.le_of_ble_eq_true rfl⟩ (rd_rcv hG1.1 (mP_6 hM1) rfl) rfl hl.1 rfl (Nat.le_of_ble_eq_true rfl) ⟨by show 0 ≤ 0; omega, by show 0 ≤ 0; omega⟩ dX11_chart_15 ?_
      refine W.eq (g2 := F0 mZ 18 ls [.ref (B (40 + ki))]) rfl ?_
      refine rd_castS S hG1.1 (mP_pr hM1 (i := ki) (by omega)) rfl rfl w1 dX11_chart_18 ?_
      refine lv_iload_n hx hb dX11_chart_21 rfl (lv_at hl 2 rfl) ?_
      refine rd_V (As := [.int d]) (rest := []) (v := some (.int (mCh f g ki d))) S hG1 (c_X10_chart l G B 0 mc cp f g H1 hM1 ki d (by omega)) gX11_chart_X10_chart rfl ⟨rfl, rfl⟩ nmX10_chart ⟨Nat.le_of_ble_eq_true rfl, Nat.le_of_ble_eq_true rfl⟩ (rd_rcv hG1.1 (mP_pr hM1 (i := ki) (by omega)) rfl) rfl hl.1 rfl (Nat.le_of_ble_eq_true rfl) ⟨by show 0 ≤ 0; omega, by show 0 ≤ 0; omega⟩ dX11_chart_22 ?_
      refine W.eq (g2 := F0 mZ 25 ls [.int (mCh f g ki d)]) rfl ?_
      refine lv_goto (tgt := 29) hx hb dX11_chart_25 (by decide) ?_
      exact mw_iret S hr hlk hS1 ⟨by show 0 ≤ 0; omega, by show 0 ≤ 0; omega⟩ dX11_chart_29 ⟨0, (by simp [tw2, tw1, p1a, p1b]), congrArg (fun z => some (Value.int z)) (by rw [if_pos rfl]; first | (rw [cnt_nI (by omega)]; done) | (rw [cnt_nI (by omega), cnt_nI (by omega)]; done) | rfl | (simp [p1a, p1b]; done)), hM1⟩

theorem nmX11_inForce : nmV yX11_inForce RX11 3 := by decide +kernel

set_option maxHeartbeats 1000000 in
set_option maxRecDepth 100000 in
theorem c_X11_inForce (l : Launch) (G : GT) (B : Nat → Nat) (th : Int32) (mc : Nat → Int32) (cp : Nat → Nat) (f : Nat → Nat → Int32) (g : Nat → Nat) (H : Heap) (hM : MP G B th mc cp f g H) (D : Nat → Prop) (hD : DP G D H.size) (hB : DB D B cp g) (i d ca : Int32) : MwV l G D H yX11_inForce wsX11_inForce { frames := 6, cells := 0, slots := 0, locals := 138 } [.ref (B 0), .int i, .int d, .int ca] 0 0 (fun v t => ∃ mt : Int32, mt = tw2 (mNx i (g 3) = true) (mNr d 0 399 = true ∨ mNr ca 0 3 = true) ∧ v = some (.int (if mt = 0 then fCat (mIF f g (cnt i) d) ca else 0)) ∧ MP G B mt mc cp f g t) := by
  refine mw_of (cc := cX11_inForce) (maxL := 4) (ret := (some .int)) (by decide) rfl (Nat.le_of_ble_eq_true rfl) ?_
  intro pZ eZ sZ mZ bZ meZ cZ ls S hr hlk hl hHs hG hGX
  have S : CallFix pZ mZ cZ cX11_inForce 4 sZ _ wsX11_inForce RX11 := S
  have hx := S.1
  have hb := S.2.1
  have hown := S.2.2.2.1
  have hts := S.2.2.2.2
  have hl : lv_has ls 4 [(0, .ref (B 0)), (1, .int i), (2, .int d), (3, .int ca)] := hl
  have hS : va_S D H H [] := va_S.rf
  have hI := hM.1
  have hgb := hI.1.1
  have hg0 := hI.1.2.1
  have hg1 := hI.1.2.2.1
  have hg3 := hI.1.2.2.2.1
  have hg4 := hI.1.2.2.2.2.1
  have hg5 := hI.1.2.2.2.2.2
  refine lv_aload_n hx hb dX11_inForce_0 rfl (lv_at hl 0 rfl) ?_
  refine lv_iload_n hx hb dX11_inForce_1 rfl (lv_at hl 1 rfl) ?_
  refine lv_iload_n hx hb dX11_inForce_2 rfl (lv_at hl 2 rfl) ?_
  refine lv_iload_n hx hb dX11_inForce_3 rfl (lv_at hl 3 rfl) ?_
  refine mw_V (As := [.int i, .int d, .int ca]) (rest := []) S hD hGX hG hS (c_X11_isAsked l G B th mc cp f g H hM D (dp_le hD hS.1) hB i d ca) (fun _ h => h) gX11_inForce_X11_isAsked rfl ⟨rfl, rfl⟩ nmX11_isAsked ⟨Nat.le_of_ble_eq_true rfl, Nat.le_of_ble_eq_true rfl⟩ (rd_rcv hG.1 (mP_0 hM) rfl) rfl hl.1 rfl (Nat.le_of_ble_eq_true rfl) ⟨by show 0 + 0 ≤ 0; omega, by show 0 + 0 ≤ 0; omega⟩ dX11_inForce_4 (fun H1 locs1 v1 hS1 hs1 hP1 hG1 => ?_)
  by_cases p1a : mNx i (g 3) = true
  · obtain ⟨hv1, hM1⟩ := hP1.1 p1a
    subst hv1
    refine W.eq (g2 := F0 mZ 7 ls [.int 0]) rfl ?_
    refine lv_if_eq (tgt := 23) hx hb dX11_inForce_7 (by decide) (fun _ => ?_) (fun c => absurd (by decide) c)
    refine lv_iconst (v := 0) hx hb dX11_inForce_23 (by decide) ?_
    exact mw_iret S hr hlk hS1 ⟨by show 0 ≤ 0; omega, by show 0 ≤ 0; omega⟩ dX11_inForce_24 ⟨1, (by simp [tw2, tw1, p1a]), congrArg (fun z => some (Value.int z)) (by exact (if_neg (by decide)).symm), hM1⟩
  · by_cases p1b : (mNr d 0 399 = true ∨ mNr ca 0 3 = true)
    · obtain ⟨hv1, hM1⟩ := hP1.2.1 p1a p1b
      subst hv1
      refine W.eq (g2 := F0 mZ 7 ls [.int 0]) rfl ?_
      refine lv_if_eq (tgt := 23) hx hb dX11_inForce_7 (by decide) (fun _ => ?_) (fun c => absurd (by decide) c)
      refine lv_iconst (v := 0) hx hb dX11_inForce_23 (by decide) ?_
      exact mw_iret S hr hlk hS1 ⟨by show 0 ≤ 0; omega, by show 0 ≤ 0; omega⟩ dX11_inForce_24 ⟨2, (by simp [tw2, tw1, p1a, p1b]), congrArg (fun z => some (Value.int z)) (by exact (if_neg (by decide)).symm), hM1⟩
    · obtain ⟨hv1, hM1⟩ := hP1.2.2 p1a p1b
      subst hv1
      refine W.eq (g2 := F0 mZ 7 ls [.int 1]) rfl ?_
      refine lv_if_eq (tgt := 23) hx hb dX11_inForce_7 (by decide) (fun c => absurd c (by decide)) (fun _ => ?_)
      obtain ⟨ki, hki, rfl⟩ := mNx_c p1a (by omega)
      refine lv_aload_n hx hb dX11_inForce_10 rfl (lv_at hl 0 rfl) ?_
      refine lv_iload_n hx hb dX11_inForce_11 rfl (lv_at hl 1 rfl) ?_
      refine lv_iload_n hx hb dX11_inForce_12 rfl (lv_at hl 2 rfl) ?_
      refine rd_V (As := [.int (nI ki), .int d]) (rest := []) (v := some (.int (mIF f g ki d))) S hG1 (c_X11_inForceNow l G B 0 mc cp f g H1 hM1 ki d (by omega)) gX11_inForce_X11_inForceNow rfl ⟨rfl, rfl⟩ nmX11_inForceNow ⟨Nat.le_of_ble_eq_true rfl, Nat.le_of_ble_eq_true rfl⟩ (rd_rcv hG1.1 (mP_0 hM1) rfl) rfl hl.1 rfl (Nat.le_of_ble_eq_true rfl) ⟨by show 0 ≤ 0; omega, by show 0 ≤ 0; omega⟩ dX11_inForce_13 ?_
      refine W.eq (g2 := F0 mZ 16 ls [.int (mIF f g ki d)]) rfl ?_
      refine lv_iload_n hx hb dX11_inForce_16 rfl (lv_at hl 3 rfl) ?_
      refine rd_S (As := [.int (mIF f g ki d), .int ca]) (rest := []) (v := some (.int (fCat (mIF f g ki d) ca))) S hG1 (c_X11_by l G H1 (mIF f g ki d) ca) gX11_inForce_X11_by rfl ⟨rfl, rfl⟩ nmX11_by ⟨Nat.le_of_ble_eq_true rfl, Nat.le_of_ble_eq_true rfl⟩ rfl hl.1 rfl (Nat.le_of_ble_eq_true rfl) ⟨by show 0 ≤ 0; omega, by show 0 ≤ 0; omega⟩ dX11_inForce_17 ?_
      refine W.eq (g2 := F0 mZ 20 ls [.int (fCat (mIF f g ki d) ca)]) rfl ?_
      refine lv_goto (tgt := 24) hx hb dX11_inForce_20 (by decide) ?_
      exact mw_iret S hr hlk hS1 ⟨by show 0 ≤ 0; omega, by show 0 ≤ 0; omega⟩ dX11_inForce_24 ⟨0, (by simp [tw2, tw1, p1a, p1b]), congrArg (fun z => some (Value.int z)) (by rw [if_pos rfl]; first | (rw [cnt_nI (by omega)]; done) | (rw [cnt_nI (by omega), cnt_nI (by omega)]; done) | rfl | (simp [p1a, p1b]; done)), hM1⟩

theorem nmX11_ofNotice : nmV yX11_ofNotice RX11 2 := by decide +kernel

set_option maxHeartbeats 1000000 in
set_option maxRecDepth 100000 in
theorem c_X11_ofNotice (l : Launch) (G : GT) (B : Nat → Nat) (th : Int32) (mc : Nat → Int32) (cp : Nat → Nat) (f : Nat → Nat → Int32) (g : Nat → Nat) (H : Heap) (hM : MP G B th mc cp f g H) (D : Nat → Prop) (hD : DP G D H.size) (hB : DB D B cp g) (i w : Int32) : MwV l G D H yX11_ofNotice wsX11_ofNotice { frames := 5, cells := 0, slots := 0, locals := 112 } [.ref (B 0), .int i, .int w] 0 0 (fun v t => ∃ mt : Int32, mt = tw2 (¬ inB i 0 (nI (g 5) - 1) = true) (¬ inB w 0 5 = true) ∧ v = some (.int (if mt = 0 then mOn f g (cnt i) w else 0)) ∧ MP G B mt mc cp f g t) := by
  refine mw_of (cc := cX11_ofNotice) (maxL := 3) (ret := (some .int)) (by decide) rfl (Nat.le_of_ble_eq_true rfl) ?_
  intro pZ eZ sZ mZ bZ meZ cZ ls S hr hlk hl hHs hG hGX
  have S : CallFix pZ mZ cZ cX11_ofNotice 3 sZ _ wsX11_ofNotice RX11 := S
  have hx := S.1
  have hb := S.2.1
  have hown := S.2.2.2.1
  have hts := S.2.2.2.2
  have hl : lv_has ls 3 [(0, .ref (B 0)), (1, .int i), (2, .int w)] := hl
  have w0 := hts (.fieldLink RX11 26 "MinimaRoomModel" "notices" "Ljava/util/ArrayList;") (by decide +kernel)
  have iX11 : ∀ w ∈ u_ws RX11 TX11 11, w ∈ wsX11_ofNotice := by decide +kernel
  have hS : va_S D H H [] := va_S.rf
  have hI := hM.1
  have hgb := hI.1.1
  have hg0 := hI.1.2.1
  have hg1 := hI.1.2.2.1
  have hg3 := hI.1.2.2.2.1
  have hg4 := hI.1.2.2.2.2.1
  have hg5 := hI.1.2.2.2.2.2
  refine lv_aload_n hx hb dX11_ofNotice_0 rfl (lv_at hl 0 rfl) ?_
  refine lv_iload_n hx hb dX11_ofNotice_1 rfl (lv_at hl 1 rfl) ?_
  refine lv_iconst (v := 0) hx hb dX11_ofNotice_2 (by decide) ?_
  refine lv_aload_n hx hb dX11_ofNotice_3 rfl (lv_at hl 0 rfl) ?_
  refine rd_get (own := RX11) (x := .ref (B 7)) S hG.1 iX11 (mP_0 hM) 8 rfl (by decide) w0 rfl dX11_ofNotice_4 ?_
  refine rd_V (As := []) (rest := [.int 0, .int i, .ref (B 0)]) (v := some (.int (nI (g 5)))) S hG (c_Jx4a65c_size_8abf5 l G H (B 7) (eA G B cp 7 10) (mc 7) (nI (g 5)) (mP_7 hM)) gX11_ofNotice_Jx4a65c_size_8abf5 rfl ⟨rfl, rfl⟩ nmJx4a65c_size_8abf5 ⟨Nat.le_of_ble_eq_true rfl, Nat.le_of_ble_eq_true rfl⟩ (rd_rcv hG.1 (mP_7 hM) rfl) rfl hl.1 rfl (Nat.le_of_ble_eq_true rfl) ⟨by show 0 ≤ 0; omega, by show 0 ≤ 0; omega⟩ dX11_ofNotice_7 ?_
  refine W.eq (g2 := F0 mZ 10 ls [.int (nI (g 5)), .int 0, .int i, .ref (B 0)]) rfl ?_
  refine lv_iconst (v := 1) hx hb dX11_ofNotice_10 (by decide) ?_
  refine lv_isub hx hb dX11_ofNotice_11 ?_
  refine rd_S (As := [.int i, .int 0, .int ((nI (g 5)) - 1)]) (rest := [.ref (B 0)]) (v := some (.int (b2i (inB i 0 ((nI (g 5)) - 1) = true)))) S hG (c_X11_isIn l G H i 0 ((nI (g 5)) - 1)) gX11_ofNotice_X11_isIn rfl ⟨rfl, rfl⟩ nmX11_isIn ⟨Nat.le_of_ble_eq_true rfl, Nat.le_of_ble_eq_true rfl⟩ rfl hl.1 rfl (Nat.le_of_ble_eq_true rfl) ⟨by show 0 ≤ 0; omega, by show 0 ≤ 0; omega⟩ dX11_ofNotice_12 ?_
  refine W.eq (g2 := F0 mZ 15 ls [.int (b2i (inB i 0 ((nI (g 5)) - 1) = true)), .ref (B 0)]) rfl ?_
  refine lv_if_ne (tgt := 22) hx hb dX11_ofNotice_15 (by decide) (fun c1 => ?_) (fun c1 => ?_)
  · have c1 := b2i_nz.mp c1
    refine lv_iconst (v := 0) hx hb dX11_ofNotice_22 (by decide) ?_
    refine lv_iconst (v := 1) hx hb dX11_ofNotice_23 (by decide) ?_
    refine mw_V (As := [.int 0, .int 1]) (rest := []) S hD hGX hG hS (c_X11_start l G B th mc cp f g H hM D (dp_le hD hS.1) hB (False) inferInstance 1 (by decide)) (fun _ h => h) gX11_ofNotice_X11_start rfl ⟨rfl, rfl⟩ nmX11_start ⟨Nat.le_of_ble_eq_true rfl, Nat.le_of_ble_eq_true rfl⟩ (rd_rcv hG.1 (mP_0 hM) rfl) rfl hl.1 rfl (Nat.le_of_ble_eq_true rfl) ⟨by show 0 + 0 ≤ 0; omega, by show 0 + 0 ≤ 0; omega⟩ dX11_ofNotice_24 (fun H2 locs2 v2 hS2 hs2 hP2 hG2 => ?_)
    obtain ⟨hv2, hM2⟩ := hP2.2 not_false
    subst hv2
    refine W.eq (g2 := F0 mZ 27 ls [.int 0]) rfl ?_
    refine lv_if_ne (tgt := 52) hx hb dX11_ofNotice_27 (by decide) (fun c => absurd (by decide) c) (fun _ => ?_)
    refine lv_aload_n hx hb dX11_ofNotice_30 rfl (lv_at hl 0 rfl) ?_
    refine lv_iload_n hx hb dX11_ofNotice_31 rfl (lv_at hl 2 rfl) ?_
    refine lv_iconst (v := 0) hx hb dX11_ofNotice_32 (by decide) ?_
    refine lv_iconst (v := 5) hx hb dX11_ofNotice_33 (by decide) ?_
    refine rd_S (As := [.int w, .int 0, .int 5]) (rest := [.ref (B 0)]) (v := some (.int (b2i (inB w 0 5 = true)))) S hG2 (c_X11_isIn l G H2 w 0 5) gX11_ofNotice_X11_isIn rfl ⟨rfl, rfl⟩ nmX11_isIn ⟨Nat.le_of_ble_eq_true rfl, Nat.le_of_ble_eq_true rfl⟩ rfl hl.1 rfl (Nat.le_of_ble_eq_true rfl) ⟨by show 0 ≤ 0; omega, by show 0 ≤ 0; omega⟩ dX11_ofNotice_34 ?_
    refine W.eq (g2 := F0 mZ 37 ls [.int (b2i (inB w 0 5 = true)), .ref (B 0)]) rfl ?_
    refine lv_if_ne (tgt := 44) hx hb dX11_ofNotice_37 (by decide) (fun c3 => ?_) (fun c3 => ?_)
    · have c3 := b2i_nz.mp c3
      refine lv_iconst (v := 0) hx hb dX11_ofNotice_44 (by decide) ?_
      refine lv_iconst (v := 2) hx hb dX11_ofNotice_45 (by decide) ?_
      refine mw_V (As := [.int 0, .int 2]) (rest := []) S hD hGX hG2 hS2 (c_X11_refuse l G B 0 mc cp f g H2 hM2 rfl D (dp_le hD hS2.1) hB (False) inferInstance 2 (by decide)) (fun _ h => h) gX11_ofNotice_X11_refuse rfl ⟨rfl, rfl⟩ nmX11_refuse ⟨Nat.le_of_ble_eq_true rfl, Nat.le_of_ble_eq_true rfl⟩ (rd_rcv hG2.1 (mP_0 hM2) rfl) rfl hl.1 rfl (Nat.le_of_ble_eq_true rfl) ⟨by show 0 + 0 ≤ 0; omega, by show 0 + 0 ≤ 0; omega⟩ dX11_ofNotice_46 (fun H4 locs4 v4 hS4 hs4 hP4 hG4 => ?_)
      obtain ⟨hv4, hM4⟩ := hP4.2 not_false
      subst hv4
      refine W.eq (g2 := F0 mZ 49 ls [.int 0]) rfl ?_
      refine lv_if_eq (tgt := 56) hx hb dX11_ofNotice_49 (by decide) (fun _ => ?_) (fun c => absurd (by decide) c)
      obtain ⟨ki, hki, rfl⟩ := inN_c c1 (by omega)
      refine lv_aload_n hx hb dX11_ofNotice_56 rfl (lv_at hl 0 rfl) ?_
      refine lv_iload_n hx hb dX11_ofNotice_57 rfl (lv_at hl 1 rfl) ?_
      refine lv_iload_n hx hb dX11_ofNotice_58 rfl (lv_at hl 2 rfl) ?_
      refine rd_V (As := [.int (nI ki), .int w]) (rest := []) (v := some (.int (mOn f g ki w))) S hG4 (c_X11_ofNoticeNow l G B 0 mc cp f g H4 hM4 ki w (by omega)) gX11_ofNotice_X11_ofNoticeNow rfl ⟨rfl, rfl⟩ nmX11_ofNoticeNow ⟨Nat.le_of_ble_eq_true rfl, Nat.le_of_ble_eq_true rfl⟩ (rd_rcv hG4.1 (mP_0 hM4) rfl) rfl hl.1 rfl (Nat.le_of_ble_eq_true rfl) ⟨by show 0 ≤ 0; omega, by show 0 ≤ 0; omega⟩ dX11_ofNotice_59 ?_
      refine W.eq (g2 := F0 mZ 62 ls [.int (mOn f g ki w)]) rfl ?_
      exact mw_iret S hr hlk hS4 ⟨by show 0 ≤ 0; omega, by show 0 ≤ 0; omega⟩ dX11_ofNotice_62 ⟨0, (by simp [tw2, tw1, c1, c3]), congrArg (fun z => some (Value.int z)) (by rw [if_pos rfl]; first | (rw [cnt_nI (by omega)]; done) | (rw [cnt_nI (by omega), cnt_nI (by omega)]; done) | rfl | (simp [c1, c3]; done)), hM4⟩
    · have c3 := b2i_z.mp c3
      refine lv_iconst (v := 1) hx hb dX11_ofNotice_40 (by decide) ?_
      refine lv_goto (tgt := 45) hx hb dX11_ofNotice_41 (by decide) ?_
      refine lv_iconst (v := 2) hx hb dX11_ofNotice_45 (by decide) ?_
      refine mw_V (As := [.int 1, .int 2]) (rest := []) S hD hGX hG2 hS2 (c_X11_refuse l G B 0 mc cp f g H2 hM2 rfl D (dp_le hD hS2.1) hB (True) inferInstance 2 (by decide)) (fun _ h => h) gX11_ofNotice_X11_refuse rfl ⟨rfl, rfl⟩ nmX11_refuse ⟨Nat.le_of_ble_eq_true rfl, Nat.le_of_ble_eq_true rfl⟩ (rd_rcv hG2.1 (mP_0 hM2) rfl) rfl hl.1 rfl (Nat.le_of_ble_eq_true rfl) ⟨by show 0 + 0 ≤ 0; omega, by show 0 + 0 ≤ 0; omega⟩ dX11_ofNotice_46 (fun H5 locs5 v5 hS5 hs5 hP5 hG5 => ?_)
      obtain ⟨hv5, hM5⟩ := hP5.1 trivial
      subst hv5
      refine W.eq (g2 := F0 mZ 49 ls [.int 1]) rfl ?_
      refine lv_if_eq (tgt := 56) hx hb dX11_ofNotice_49 (by decide) (fun c => absurd c (by decide)) (fun _ => ?_)
      refine lv_iconst (v := 0) hx hb dX11_ofNotice_52 (by decide) ?_
      refine lv_goto (tgt := 62) hx hb dX11_ofNotice_53 (by decide) ?_
      exact mw_iret S hr hlk hS5 ⟨by show 0 ≤ 0; omega, by show 0 ≤ 0; omega⟩ dX11_ofNotice_62 ⟨2, (by simp [tw2, tw1, c1, c3]), congrArg (fun z => some (Value.int z)) (by exact (if_neg (by decide)).symm), hM5⟩
  · have c1 := b2i_z.mp c1
    refine lv_iconst (v := 1) hx hb dX11_ofNotice_18 (by decide) ?_
    refine lv_goto (tgt := 23) hx hb dX11_ofNotice_19 (by decide) ?_
    refine lv_iconst (v := 1) hx hb dX11_ofNotice_23 (by decide) ?_
    refine mw_V (As := [.int 1, .int 1]) (rest := []) S hD hGX hG hS (c_X11_start l G B th mc cp f g H hM D (dp_le hD hS.1) hB (True) inferInstance 1 (by decide)) (fun _ h => h) gX11_ofNotice_X11_start rfl ⟨rfl, rfl⟩ nmX11_start ⟨Nat.le_of_ble_eq_true rfl, Nat.le_of_ble_eq_true rfl⟩ (rd_rcv hG.1 (mP_0 hM) rfl) rfl hl.1 rfl (Nat.le_of_ble_eq_true rfl) ⟨by show 0 + 0 ≤ 0; omega, by show 0 + 0 ≤ 0; omega⟩ dX11_ofNotice_24 (fun H6 locs6 v6 hS6 hs6 hP6 hG6 => ?_)
    obtain ⟨hv6, hM6⟩ := hP6.1 trivial
    subst hv6
    refine W.eq (g2 := F0 mZ 27 ls [.int 1]) rfl ?_
    refine lv_if_ne (tgt := 52) hx hb dX11_ofNotice_27 (by decide) (fun _ => ?_) (fun c => absurd c (by decide))
    refine lv_iconst (v := 0) hx hb dX11_ofNotice_52 (by decide) ?_
    refine lv_goto (tgt := 62) hx hb dX11_ofNotice_53 (by decide) ?_
    exact mw_iret S hr hlk hS6 ⟨by show 0 ≤ 0; omega, by show 0 ≤ 0; omega⟩ dX11_ofNotice_62 ⟨1, (by simp [tw2, tw1, c1]), congrArg (fun z => some (Value.int z)) (by exact (if_neg (by decide)).symm), hM6⟩

theorem nmX11_believes : nmV yX11_believes RX11 4 := by decide +kernel

set_option maxHeartbeats 1000000 in
set_option maxRecDepth 100000 in
theorem c_X11_believes (l : Launch) (G : GT) (B : Nat → Nat) (th : Int32) (mc : Nat → Int32) (cp : Nat → Nat) (f : Nat → Nat → Int32) (g : Nat → Nat) (H : Heap) (hM : MP G B th mc cp f g H) (D : Nat → Prop) (hD : DP G D H.size) (hB : DB D B cp g) (c i d ca : Int32) (hrd : ∀ c, c < 4 → f 29 c = nI (cnt (f 29 c)) ∧ cnt (f 29 c) ≤ g 5) : MwV l G D H yX11_believes wsX11_believes { frames := 6, cells := 0, slots := 0, locals := 139 } [.ref (B 0), .int c, .int i, .int d, .int ca] 0 0 (fun v t => ∃ mt : Int32, mt = tw2 (mNr c 0 3 = true ∨ mNx i (g 3) = true) (¬ inB d (nI (g 0)) 399 = true ∨ mNr ca 0 3 = true) ∧ v = some (.int (if mt = 0 then fCat (mBl f g (cnt c) (cnt i) d) ca else 0)) ∧ MP G B mt mc cp f g t) := by
  refine mw_of (cc := cX11_believes) (maxL := 5) (ret := (some .int)) (by decide) rfl (Nat.le_of_ble_eq_true rfl) ?_
  intro pZ eZ sZ mZ bZ meZ cZ ls S hr hlk hl hHs hG hGX
  have S : CallFix pZ mZ cZ cX11_believes 5 sZ _ wsX11_believes RX11 := S
  have hx := S.1
  have hb := S.2.1
  have hown := S.2.2.2.1
  have hts := S.2.2.2.2
  have hl : lv_has ls 5 [(0, .ref (B 0)), (1, .int c), (2, .int i), (3, .int d), (4, .int ca)] := hl
  have w0 := hts (.fieldLink RX11 156 "MinimaRoomModel" "now" "I") (by decide +kernel)
  have iX11 : ∀ w ∈ u_ws RX11 TX11 11, w ∈ wsX11_believes := by decide +kernel
  have hS : va_S D H H [] := va_S.rf
  have hI := hM.1
  have hgb := hI.1.1
  have hg0 := hI.1.2.1
  have hg1 := hI.1.2.2.1
  have hg3 := hI.1.2.2.2.1
  have hg4 := hI.1.2.2.2.2.1
  have hg5 := hI.1.2.2.2.2.2
  refine lv_aload_n hx hb dX11_believes_0 rfl (lv_at hl 0 rfl) ?_
  refine lv_iload_n hx hb dX11_believes_1 rfl (lv_at hl 1 rfl) ?_
  refine rd_S (As := [.int c]) (rest := [.ref (B 0)]) (v := some (.int (b2i (mNr c 0 3 = true)))) S hG (c_X11_isNoCrew l G H c) gX11_believes_X11_isNoCrew rfl ⟨rfl, rfl⟩ nmX11_isNoCrew ⟨Nat.le_of_ble_eq_true rfl, Nat.le_of_ble_eq_true rfl⟩ rfl hl.1 rfl (Nat.le_of_ble_eq_true rfl) ⟨by show 0 ≤ 0; omega, by show 0 ≤ 0; omega⟩ dX11_believes_2 ?_
  refine W.eq (g2 := F0 mZ 5 ls [.int (b2i (mNr c 0 3 = true)), .ref (B 0)]) rfl ?_
  refine lv_if_ne (tgt := 16) hx hb dX11_believes_5 (by decide) (fun c1 => ?_) (fun c1 => ?_)
  · have c1 := b2i_nz.mp c1
    refine lv_iconst (v := 1) hx hb dX11_believes_16 (by decide) ?_
    refine lv_goto (tgt := 21) hx hb dX11_believes_17 (by decide) ?_
    refine lv_iconst (v := 1) hx hb dX11_believes_21 (by decide) ?_
    refine mw_V (As := [.int 1, .int 1]) (rest := []) S hD hGX hG hS (c_X11_start l G B th mc cp f g H hM D (dp_le hD hS.1) hB (True) inferInstance 1 (by decide)) (fun _ h => h) gX11_believes_X11_start rfl ⟨rfl, rfl⟩ nmX11_start ⟨Nat.le_of_ble_eq_true rfl, Nat.le_of_ble_eq_true rfl⟩ (rd_rcv hG.1 (mP_0 hM) rfl) rfl hl.1 rfl (Nat.le_of_ble_eq_true rfl) ⟨by show 0 + 0 ≤ 0; omega, by show 0 + 0 ≤ 0; omega⟩ dX11_believes_22 (fun H2 locs2 v2 hS2 hs2 hP2 hG2 => ?_)
    obtain ⟨hv2, hM2⟩ := hP2.1 trivial
    subst hv2
    refine W.eq (g2 := F0 mZ 25 ls [.int 1]) rfl ?_
    refine lv_if_ne (tgt := 63) hx hb dX11_believes_25 (by decide) (fun _ => ?_) (fun c => absurd c (by decide))
    refine lv_iconst (v := 0) hx hb dX11_believes_63 (by decide) ?_
    refine lv_goto (tgt := 79) hx hb dX11_believes_64 (by decide) ?_
    exact mw_iret S hr hlk hS2 ⟨by show 0 ≤ 0; omega, by show 0 ≤ 0; omega⟩ dX11_believes_79 ⟨1, (by simp [tw2, tw1, c1]), congrArg (fun z => some (Value.int z)) (by exact (if_neg (by decide)).symm), hM2⟩
  · have c1 := b2i_z.mp c1
    refine lv_aload_n hx hb dX11_believes_8 rfl (lv_at hl 0 rfl) ?_
    refine lv_iload_n hx hb dX11_believes_9 rfl (lv_at hl 2 rfl) ?_
    refine rd_V (As := [.int i]) (rest := [.ref (B 0)]) (v := some (.int (b2i (mNx i (g 3) = true)))) S hG (c_X11_isNoProcedure l G B th mc cp f g H hM i) gX11_believes_X11_isNoProcedure rfl ⟨rfl, rfl⟩ nmX11_isNoProcedure ⟨Nat.le_of_ble_eq_true rfl, Nat.le_of_ble_eq_true rfl⟩ (rd_rcv hG.1 (mP_0 hM) rfl) rfl hl.1 rfl (Nat.le_of_ble_eq_true rfl) ⟨by show 0 ≤ 0; omega, by show 0 ≤ 0; omega⟩ dX11_believes_10 ?_
    refine W.eq (g2 := F0 mZ 13 ls [.int (b2i (mNx i (g 3) = true)), .ref (B 0)]) rfl ?_
    refine lv_if_eq (tgt := 20) hx hb dX11_believes_13 (by decide) (fun c3 => ?_) (fun c3 => ?_)
    · have c3 := b2i_z.mp c3
      refine lv_iconst (v := 0) hx hb dX11_believes_20 (by decide) ?_
      refine lv_iconst (v := 1) hx hb dX11_believes_21 (by decide) ?_
      refine mw_V (As := [.int 0, .int 1]) (rest := []) S hD hGX hG hS (c_X11_start l G B th mc cp f g H hM D (dp_le hD hS.1) hB (False) inferInstance 1 (by decide)) (fun _ h => h) gX11_believes_X11_start rfl ⟨rfl, rfl⟩ nmX11_start ⟨Nat.le_of_ble_eq_true rfl, Nat.le_of_ble_eq_true rfl⟩ (rd_rcv hG.1 (mP_0 hM) rfl) rfl hl.1 rfl (Nat.le_of_ble_eq_true rfl) ⟨by show 0 + 0 ≤ 0; omega, by show 0 + 0 ≤ 0; omega⟩ dX11_believes_22 (fun H4 locs4 v4 hS4 hs4 hP4 hG4 => ?_)
      obtain ⟨hv4, hM4⟩ := hP4.2 not_false
      subst hv4
      refine W.eq (g2 := F0 mZ 25 ls [.int 0]) rfl ?_
      refine lv_if_ne (tgt := 63) hx hb dX11_believes_25 (by decide) (fun c => absurd (by decide) c) (fun _ => ?_)
      refine lv_aload_n hx hb dX11_believes_28 rfl (lv_at hl 0 rfl) ?_
      refine lv_iload_n hx hb dX11_believes_29 rfl (lv_at hl 3 rfl) ?_
      refine lv_aload_n hx hb dX11_believes_30 rfl (lv_at hl 0 rfl) ?_
      refine rd_get (own := RX11) (x := .int (nI (g 0))) S hG4.1 iX11 (mP_0 hM4) 1 rfl (by decide) w0 rfl dX11_believes_31 ?_
      refine lv_sipush (v := 399) hx hb dX11_believes_34 (by decide) ?_
      refine rd_S (As := [.int d, .int (nI (g 0)), .int 399]) (rest := [.ref (B 0)]) (v := some (.int (b2i (inB d (nI (g 0)) 399 = true)))) S hG4 (c_X11_isIn l G H4 d (nI (g 0)) 399) gX11_believes_X11_isIn rfl ⟨rfl, rfl⟩ nmX11_isIn ⟨Nat.le_of_ble_eq_true rfl, Nat.le_of_ble_eq_true rfl⟩ rfl hl.1 rfl (Nat.le_of_ble_eq_true rfl) ⟨by show 0 ≤ 0; omega, by show 0 ≤ 0; omega⟩ dX11_believes_37 ?_
      refine W.eq (g2 := F0 mZ 40 ls [.int (b2i (inB d (nI (g 0)) 399 = true)), .ref (B 0)]) rfl ?_
      refine lv_if_eq (tgt := 51) hx hb dX11_believes_40 (by decide) (fun c5 => ?_) (fun c5 => ?_)
      · have c5 := b2i_z.mp c5
        refine lv_iconst (v := 1) hx hb dX11_believes_51 (by decide) ?_
        refine lv_goto (tgt := 56) hx hb dX11_believes_52 (by decide) ?_
        refine lv_iconst (v := 2) hx hb dX11_believes_56 (by decide) ?_
        refine mw_V (As := [.int 1, .int 2]) (rest := []) S hD hGX hG4 hS4 (c_X11_refuse l G B 0 mc cp f g H4 hM4 rfl D (dp_le hD hS4.1) hB (True) inferInstance 2 (by decide)) (fun _ h => h) gX11_believes_X11_refuse rfl ⟨rfl, rfl⟩ nmX11_refuse ⟨Nat.le_of_ble_eq_true rfl, Nat.le_of_ble_eq_true rfl⟩ (rd_rcv hG4.1 (mP_0 hM4) rfl) rfl hl.1 rfl (Nat.le_of_ble_eq_true rfl) ⟨by show 0 + 0 ≤ 0; omega, by show 0 + 0 ≤ 0; omega⟩ dX11_believes_57 (fun H6 locs6 v6 hS6 hs6 hP6 hG6 => ?_)
        obtain ⟨hv6, hM6⟩ := hP6.1 trivial
        subst hv6
        refine W.eq (g2 := F0 mZ 60 ls [.int 1]) rfl ?_
        refine lv_if_eq (tgt := 67) hx hb dX11_believes_60 (by decide) (fun c => absurd c (by decide)) (fun _ => ?_)
        refine lv_iconst (v := 0) hx hb dX11_believes_63 (by decide) ?_
        refine lv_goto (tgt := 79) hx hb dX11_believes_64 (by decide) ?_
        exact mw_iret S hr hlk hS6 ⟨by show 0 ≤ 0; omega, by show 0 ≤ 0; omega⟩ dX11_believes_79 ⟨2, (by simp [tw2, tw1, c1, c3, c5]), congrArg (fun z => some (Value.int z)) (by exact (if_neg (by decide)).symm), hM6⟩
      · have c5 := b2i_nz.mp c5
        refine lv_iload hx hb dX11_believes_43 (lv_at hl 4 rfl) ?_
        refine rd_S (As := [.int ca]) (rest := [.ref (B 0)]) (v := some (.int (b2i (mNr ca 0 3 = true)))) S hG4 (c_X11_isNoCategory l G H4 ca) gX11_believes_X11_isNoCategory rfl ⟨rfl, rfl⟩ nmX11_isNoCategory ⟨Nat.le_of_ble_eq_true rfl, Nat.le_of_ble_eq_true rfl⟩ rfl hl.1 rfl (Nat.le_of_ble_eq_true rfl) ⟨by show 0 ≤ 0; omega, by show 0 ≤ 0; omega⟩ dX11_believes_45 ?_
        refine W.eq (g2 := F0 mZ 48 ls [.int (b2i (mNr ca 0 3 = true)), .ref (B 0)]) rfl ?_
        refine lv_if_eq (tgt := 55) hx hb dX11_believes_48 (by decide) (fun c7 => ?_) (fun c7 => ?_)
        · have c7 := b2i_z.mp c7
          refine lv_iconst (v := 0) hx hb dX11_believes_55 (by decide) ?_
          refine lv_iconst (v := 2) hx hb dX11_believes_56 (by decide) ?_
          refine mw_V (As := [.int 0, .int 2]) (rest := []) S hD hGX hG4 hS4 (c_X11_refuse l G B 0 mc cp f g H4 hM4 rfl D (dp_le hD hS4.1) hB (False) inferInstance 2 (by decide)) (fun _ h => h) gX11_believes_X11_refuse rfl ⟨rfl, rfl⟩ nmX11_refuse ⟨Nat.le_of_ble_eq_true rfl, Nat.le_of_ble_eq_true rfl⟩ (rd_rcv hG4.1 (mP_0 hM4) rfl) rfl hl.1 rfl (Nat.le_of_ble_eq_true rfl) ⟨by show 0 + 0 ≤ 0; omega, by show 0 + 0 ≤ 0; omega⟩ dX11_believes_57 (fun H8 locs8 v8 hS8 hs8 hP8 hG8 => ?_)
          obtain ⟨hv8, hM8⟩ := hP8.2 not_false
          subst hv8
          refine W.eq (g2 := F0 mZ 60 ls [.int 0]) rfl ?_
          refine lv_if_eq (tgt := 67) hx hb dX11_believes_60 (by decide) (fun _ => ?_) (fun c => absurd (by decide) c)
          obtain ⟨kc, hkc, rfl⟩ := mNr_c (n := 4) c1 (by decide)
          obtain ⟨ki, hki, rfl⟩ := mNx_c c3 (by omega)
          refine lv_aload_n hx hb dX11_believes_67 rfl (lv_at hl 0 rfl) ?_
          refine lv_iload_n hx hb dX11_believes_68 rfl (lv_at hl 1 rfl) ?_
          refine lv_iload_n hx hb dX11_believes_69 rfl (lv_at hl 2 rfl) ?_
          refine lv_iload_n hx hb dX11_believes_70 rfl (lv_at hl 3 rfl) ?_
          refine rd_V (As := [.int (nI kc), .int (nI ki), .int d]) (rest := []) (v := some (.int (mBl f g kc ki d))) S hG8 (c_X11_believesNow l G B 0 mc cp f g H8 hM8 kc ki d (by omega) (by omega) (hrd _ (by omega))) gX11_believes_X11_believesNow rfl ⟨rfl, rfl⟩ nmX11_believesNow ⟨Nat.le_of_ble_eq_true rfl, Nat.le_of_ble_eq_true rfl⟩ (rd_rcv hG8.1 (mP_0 hM8) rfl) rfl hl.1 rfl (Nat.le_of_ble_eq_true rfl) ⟨by show 0 ≤ 0; omega, by show 0 ≤ 0; omega⟩ dX11_believes_71 ?_
          refine W.eq (g2 := F0 mZ 74 ls [.int (mBl f g kc ki d)]) rfl ?_
          refine lv_iload hx hb dX11_believes_74 (lv_at hl 4 rfl) ?_
          refine rd_S (As := [.int (mBl f g kc ki d), .int ca]) (rest := []) (v := some (.int (fCat (mBl f g kc ki d) ca))) S hG8 (c_X11_by l G H8 (mBl f g kc ki d) ca) gX11_believes_X11_by rfl ⟨rfl, rfl⟩ nmX11_by ⟨Nat.le_of_ble_eq_true rfl, Nat.le_of_ble_eq_true rfl⟩ rfl hl.1 rfl (Nat.le_of_ble_eq_true rfl) ⟨by show 0 ≤ 0; omega, by show 0 ≤ 0; omega⟩ dX11_believes_76 ?_
          refine W.eq (g2 := F0 mZ 79 ls [.int (fCat (mBl f g kc ki d) ca)]) rfl ?_
          exact mw_iret S hr hlk hS8 ⟨by show 0 ≤ 0; omega, by show 0 ≤ 0; omega⟩ dX11_believes_79 ⟨0, (by simp [tw2, tw1, c1, c3, c5, c7]), congrArg (fun z => some (Value.int z)) (by rw [if_pos rfl]; first | (rw [cnt_nI (by omega)]; done) | (rw [cnt_nI (by omega), cnt_nI (by omega)]; done) | rfl | (simp [c1, c3, c5, c7]; done)), hM8⟩
        · have c7 := b2i_nz.mp c7
          refine lv_iconst (v := 1) hx hb dX11_believes_51 (by decide) ?_
          refine lv_goto (tgt := 56) hx hb dX11_believes_52 (by decide) ?_
          refine lv_iconst (v := 2) hx hb dX11_believes_56 (by decide) ?_
          refine mw_V (As := [.int 1, .int 2]) (rest := []) S hD hGX hG4 hS4 (c_X11_refuse l G B 0 mc cp f g H4 hM4 rfl D (dp_le hD hS4.1) hB (True) inferInstance 2 (by decide)) (fun _ h => h) gX11_believes_X11_refuse rfl ⟨rfl, rfl⟩ nmX11_refuse ⟨Nat.le_of_ble_eq_true rfl, Nat.le_of_ble_eq_true rfl⟩ (rd_rcv hG4.1 (mP_0 hM4) rfl) rfl hl.1 rfl (Nat.le_of_ble_eq_true rfl) ⟨by show 0 + 0 ≤ 0; omega, by show 0 + 0 ≤ 0; omega⟩ dX11_believes_57 (fun H9 locs9 v9 hS9 hs9 hP9 hG9 => ?_)
          obtain ⟨hv9, hM9⟩ := hP9.1 trivial
          subst hv9
          refine W.eq (g2 := F0 mZ 60 ls [.int 1]) rfl ?_
          refine lv_if_eq (tgt := 67) hx hb dX11_believes_60 (by decide) (fun c => absurd c (by decide)) (fun _ => ?_)
          refine lv_iconst (v := 0) hx hb dX11_believes_63 (by decide) ?_
          refine lv_goto (tgt := 79) hx hb dX11_believes_64 (by decide) ?_
          exact mw_iret S hr hlk hS9 ⟨by show 0 ≤ 0; omega, by show 0 ≤ 0; omega⟩ dX11_believes_79 ⟨2, (by simp [tw2, tw1, c1, c3, c5, c7]), congrArg (fun z => some (Value.int z)) (by exact (if_neg (by decide)).symm), hM9⟩
    · have c3 := b2i_nz.mp c3
      refine lv_iconst (v := 1) hx hb dX11_believes_16 (by decide) ?_
      refine lv_goto (tgt := 21) hx hb dX11_believes_17 (by decide) ?_
      refine lv_iconst (v := 1) hx hb dX11_believes_21 (by decide) ?_
      refine mw_V (As := [.int 1, .int 1]) (rest := []) S hD hGX hG hS (c_X11_start l G B th mc cp f g H hM D (dp_le hD hS.1) hB (True) inferInstance 1 (by decide)) (fun _ h => h) gX11_believes_X11_start rfl ⟨rfl, rfl⟩ nmX11_start ⟨Nat.le_of_ble_eq_true rfl, Nat.le_of_ble_eq_true rfl⟩ (rd_rcv hG.1 (mP_0 hM) rfl) rfl hl.1 rfl (Nat.le_of_ble_eq_true rfl) ⟨by show 0 + 0 ≤ 0; omega, by show 0 + 0 ≤ 0; omega⟩ dX11_believes_22 (fun H10 locs10 v10 hS10 hs10 hP10 hG10 => ?_)
      obtain ⟨hv10, hM10⟩ := hP10.1 trivial
      subst hv10
      refine W.eq (g2 := F0 mZ 25 ls [.int 1]) rfl ?_
      refine lv_if_ne (tgt := 63) hx hb dX11_believes_25 (by decide) (fun _ => ?_) (fun c => absurd c (by decide))
      refine lv_iconst (v := 0) hx hb dX11_believes_63 (by decide) ?_
      refine lv_goto (tgt := 79) hx hb dX11_believes_64 (by decide) ?_
      exact mw_iret S hr hlk hS10 ⟨by show 0 ≤ 0; omega, by show 0 ≤ 0; omega⟩ dX11_believes_79 ⟨1, (by simp [tw2, tw1, c1, c3]), congrArg (fun z => some (Value.int z)) (by exact (if_neg (by decide)).symm), hM10⟩

theorem nmX11_misled : nmV yX11_misled RX11 1 := by decide +kernel

set_option maxHeartbeats 1000000 in
set_option maxRecDepth 100000 in
theorem c_X11_misled (l : Launch) (G : GT) (B : Nat → Nat) (th : Int32) (mc : Nat → Int32) (cp : Nat → Nat) (f : Nat → Nat → Int32) (g : Nat → Nat) (H : Heap) (hM : MP G B th mc cp f g H) (D : Nat → Prop) (hD : DP G D H.size) (hB : DB D B cp g) (c : Int32) (hrd : ∀ c, c < 4 → f 29 c = nI (cnt (f 29 c)) ∧ cnt (f 29 c) ≤ g 5) : MwV l G D H yX11_misled wsX11_misled { frames := 7, cells := 0, slots := 0, locals := 164 } [.ref (B 0), .int c] 0 0 (fun v t => ∃ mt : Int32, mt = tw1 (mNr c 0 3 = true) ∧ v = some (.int (if mt = 0 then mMi f g (cnt c) else 0)) ∧ MP G B mt mc cp f g t) := by
  refine mw_of (cc := cX11_misled) (maxL := 2) (ret := (some .int)) (by decide) rfl (Nat.le_of_ble_eq_true rfl) ?_
  intro pZ eZ sZ mZ bZ meZ cZ ls S hr hlk hl hHs hG hGX
  have S : CallFix pZ mZ cZ cX11_misled 2 sZ _ wsX11_misled RX11 := S
  have hx := S.1
  have hb := S.2.1
  have hown := S.2.2.2.1
  have hts := S.2.2.2.2
  have hl : lv_has ls 2 [(0, .ref (B 0)), (1, .int c)] := hl
  have hS : va_S D H H [] := va_S.rf
  have hI := hM.1
  have hgb := hI.1.1
  have hg0 := hI.1.2.1
  have hg1 := hI.1.2.2.1
  have hg3 := hI.1.2.2.2.1
  have hg4 := hI.1.2.2.2.2.1
  have hg5 := hI.1.2.2.2.2.2
  refine lv_aload_n hx hb dX11_misled_0 rfl (lv_at hl 0 rfl) ?_
  refine lv_iload_n hx hb dX11_misled_1 rfl (lv_at hl 1 rfl) ?_
  refine rd_S (As := [.int c]) (rest := [.ref (B 0)]) (v := some (.int (b2i (mNr c 0 3 = true)))) S hG (c_X11_isNoCrew l G H c) gX11_misled_X11_isNoCrew rfl ⟨rfl, rfl⟩ nmX11_isNoCrew ⟨Nat.le_of_ble_eq_true rfl, Nat.le_of_ble_eq_true rfl⟩ rfl hl.1 rfl (Nat.le_of_ble_eq_true rfl) ⟨by show 0 ≤ 0; omega, by show 0 ≤ 0; omega⟩ dX11_misled_2 ?_
  refine W.eq (g2 := F0 mZ 5 ls [.int (b2i (mNr c 0 3 = true)), .ref (B 0)]) rfl ?_
  refine lv_iconst (v := 1) hx hb dX11_misled_5 (by decide) ?_
  refine mw_V (As := [.int (b2i (mNr c 0 3 = true)), .int 1]) (rest := []) S hD hGX hG hS (c_X11_start l G B th mc cp f g H hM D (dp_le hD hS.1) hB (mNr c 0 3 = true) inferInstance 1 (by decide)) (fun _ h => h) gX11_misled_X11_start rfl ⟨rfl, rfl⟩ nmX11_start ⟨Nat.le_of_ble_eq_true rfl, Nat.le_of_ble_eq_true rfl⟩ (rd_rcv hG.1 (mP_0 hM) rfl) rfl hl.1 rfl (Nat.le_of_ble_eq_true rfl) ⟨by show 0 + 0 ≤ 0; omega, by show 0 + 0 ≤ 0; omega⟩ dX11_misled_6 (fun H1 locs1 v1 hS1 hs1 hP1 hG1 => ?_)
  by_cases p1 : mNr c 0 3 = true
  · obtain ⟨hv1, hM1⟩ := hP1.1 p1
    subst hv1
    refine W.eq (g2 := F0 mZ 9 ls [.int 1]) rfl ?_
    refine lv_if_eq (tgt := 16) hx hb dX11_misled_9 (by decide) (fun c => absurd c (by decide)) (fun _ => ?_)
    refine lv_iconst (v := 0) hx hb dX11_misled_12 (by decide) ?_
    refine lv_goto (tgt := 21) hx hb dX11_misled_13 (by decide) ?_
    exact mw_iret S hr hlk hS1 ⟨by show 0 ≤ 0; omega, by show 0 ≤ 0; omega⟩ dX11_misled_21 ⟨1, (by simp [tw2, tw1, p1]), congrArg (fun z => some (Value.int z)) (by exact (if_neg (by decide)).symm), hM1⟩
  · obtain ⟨hv1, hM1⟩ := hP1.2 p1
    subst hv1
    refine W.eq (g2 := F0 mZ 9 ls [.int 0]) rfl ?_
    refine lv_if_eq (tgt := 16) hx hb dX11_misled_9 (by decide) (fun _ => ?_) (fun c => absurd (by decide) c)
    obtain ⟨kc, hkc, rfl⟩ := mNr_c (n := 4) p1 (by decide)
    refine lv_aload_n hx hb dX11_misled_16 rfl (lv_at hl 0 rfl) ?_
    refine lv_iload_n hx hb dX11_misled_17 rfl (lv_at hl 1 rfl) ?_
    refine rd_V (As := [.int (nI kc)]) (rest := []) (v := some (.int (mMi f g kc))) S hG1 (c_X11_misledNow l G B 0 mc cp f g H1 hM1 kc (by omega) hrd) gX11_misled_X11_misledNow rfl ⟨rfl, rfl⟩ nmX11_misledNow ⟨Nat.le_of_ble_eq_true rfl, Nat.le_of_ble_eq_true rfl⟩ (rd_rcv hG1.1 (mP_0 hM1) rfl) rfl hl.1 rfl (Nat.le_of_ble_eq_true rfl) ⟨by show 0 ≤ 0; omega, by show 0 ≤ 0; omega⟩ dX11_misled_18 ?_
    refine W.eq (g2 := F0 mZ 21 ls [.int (mMi f g kc)]) rfl ?_
    exact mw_iret S hr hlk hS1 ⟨by show 0 ≤ 0; omega, by show 0 ≤ 0; omega⟩ dX11_misled_21 ⟨0, (by simp [tw2, tw1, p1]), congrArg (fun z => some (Value.int z)) (by rw [if_pos rfl]; first | (rw [cnt_nI (by omega)]; done) | (rw [cnt_nI (by omega), cnt_nI (by omega)]; done) | rfl | (simp [p1]; done)), hM1⟩

theorem nmX11_unsafeOn : nmV yX11_unsafeOn RX11 1 := by decide +kernel

set_option maxHeartbeats 1000000 in
set_option maxRecDepth 100000 in
theorem c_X11_unsafeOn (l : Launch) (G : GT) (B : Nat → Nat) (th : Int32) (mc : Nat → Int32) (cp : Nat → Nat) (f : Nat → Nat → Int32) (g : Nat → Nat) (H : Heap) (hM : MP G B th mc cp f g H) (D : Nat → Prop) (hD : DP G D H.size) (hB : DB D B cp g) (i : Int32) : MwV l G D H yX11_unsafeOn wsX11_unsafeOn { frames := 8, cells := 0, slots := 0, locals := 187 } [.ref (B 0), .int i] 0 0 (fun v t => ∃ mt : Int32, mt = tw1 (mNx i (g 3) = true) ∧ v = some (.int (if mt = 0 then mUL f g (cnt i) (400 - g 0) 0 else 0)) ∧ MP G B mt mc cp f g t) := by
  refine mw_of (cc := cX11_unsafeOn) (maxL := 2) (ret := (some .int)) (by decide) rfl (Nat.le_of_ble_eq_true rfl) ?_
  intro pZ eZ sZ mZ bZ meZ cZ ls S hr hlk hl hHs hG hGX
  have S : CallFix pZ mZ cZ cX11_unsafeOn 2 sZ _ wsX11_unsafeOn RX11 := S
  have hx := S.1
  have hb := S.2.1
  have hown := S.2.2.2.1
  have hts := S.2.2.2.2
  have hl : lv_has ls 2 [(0, .ref (B 0)), (1, .int i)] := hl
  have hS : va_S D H H [] := va_S.rf
  have hI := hM.1
  have hgb := hI.1.1
  have hg0 := hI.1.2.1
  have hg1 := hI.1.2.2.1
  have hg3 := hI.1.2.2.2.1
  have hg4 := hI.1.2.2.2.2.1
  have hg5 := hI.1.2.2.2.2.2
  refine lv_aload_n hx hb dX11_unsafeOn_0 rfl (lv_at hl 0 rfl) ?_
  refine lv_aload_n hx hb dX11_unsafeOn_1 rfl (lv_at hl 0 rfl) ?_
  refine lv_iload_n hx hb dX11_unsafeOn_2 rfl (lv_at hl 1 rfl) ?_
  refine rd_V (As := [.int i]) (rest := [.ref (B 0)]) (v := some (.int (b2i (mNx i (g 3) = true)))) S hG (c_X11_isNoProcedure l G B th mc cp f g H hM i) gX11_unsafeOn_X11_isNoProcedure rfl ⟨rfl, rfl⟩ nmX11_isNoProcedure ⟨Nat.le_of_ble_eq_true rfl, Nat.le_of_ble_eq_true rfl⟩ (rd_rcv hG.1 (mP_0 hM) rfl) rfl hl.1 rfl (Nat.le_of_ble_eq_true rfl) ⟨by show 0 ≤ 0; omega, by show 0 ≤ 0; omega⟩ dX11_unsafeOn_3 ?_
  refine W.eq (g2 := F0 mZ 6 ls [.int (b2i (mNx i (g 3) = true)), .ref (B 0)]) rfl ?_
  refine lv_iconst (v := 1) hx hb dX11_unsafeOn_6 (by decide) ?_
  refine mw_V (As := [.int (b2i (mNx i (g 3) = true)), .int 1]) (rest := []) S hD hGX hG hS (c_X11_start l G B th mc cp f g H hM D (dp_le hD hS.1) hB (mNx i (g 3) = true) inferInstance 1 (by decide)) (fun _ h => h) gX11_unsafeOn_X11_start rfl ⟨rfl, rfl⟩ nmX11_start ⟨Nat.le_of_ble_eq_true rfl, Nat.le_of_ble_eq_true rfl⟩ (rd_rcv hG.1 (mP_0 hM) rfl) rfl hl.1 rfl (Nat.le_of_ble_eq_true rfl) ⟨by show 0 + 0 ≤ 0; omega, by show 0 + 0 ≤ 0; omega⟩ dX11_unsafeOn_7 (fun H1 locs1 v1 hS1 hs1 hP1 hG1 => ?_)
  by_cases p1 : mNx i (g 3) = true
  · obtain ⟨hv1, hM1⟩ := hP1.1 p1
    subst hv1
    refine W.eq (g2 := F0 mZ 10 ls [.int 1]) rfl ?_
    refine lv_if_eq (tgt := 17) hx hb dX11_unsafeOn_10 (by decide) (fun c => absurd c (by decide)) (fun _ => ?_)
    refine lv_iconst (v := 0) hx hb dX11_unsafeOn_13 (by decide) ?_
    refine lv_goto (tgt := 22) hx hb dX11_unsafeOn_14 (by decide) ?_
    exact mw_iret S hr hlk hS1 ⟨by show 0 ≤ 0; omega, by show 0 ≤ 0; omega⟩ dX11_unsafeOn_22 ⟨1, (by simp [tw2, tw1, p1]), congrArg (fun z => some (Value.int z)) (by exact (if_neg (by decide)).symm), hM1⟩
  · obtain ⟨hv1, hM1⟩ := hP1.2 p1
    subst hv1
    refine W.eq (g2 := F0 mZ 10 ls [.int 0]) rfl ?_
    refine lv_if_eq (tgt := 17) hx hb dX11_unsafeOn_10 (by decide) (fun _ => ?_) (fun c => absurd (by decide) c)
    obtain ⟨ki, hki, rfl⟩ := mNx_c p1 (by omega)
    refine lv_aload_n hx hb dX11_unsafeOn_17 rfl (lv_at hl 0 rfl) ?_
    refine lv_iload_n hx hb dX11_unsafeOn_18 rfl (lv_at hl 1 rfl) ?_
    refine rd_V (As := [.int (nI ki)]) (rest := []) (v := some (.int (mUL f g ki (400 - g 0) 0))) S hG1 (c_X11_unsafeOnNow l G B 0 mc cp f g H1 hM1 ki (by omega)) gX11_unsafeOn_X11_unsafeOnNow rfl ⟨rfl, rfl⟩ nmX11_unsafeOnNow ⟨Nat.le_of_ble_eq_true rfl, Nat.le_of_ble_eq_true rfl⟩ (rd_rcv hG1.1 (mP_0 hM1) rfl) rfl hl.1 rfl (Nat.le_of_ble_eq_true rfl) ⟨by show 0 ≤ 0; omega, by show 0 ≤ 0; omega⟩ dX11_unsafeOn_19 ?_
    refine W.eq (g2 := F0 mZ 22 ls [.int (mUL f g ki (400 - g 0) 0)]) rfl ?_
    exact mw_iret S hr hlk hS1 ⟨by show 0 ≤ 0; omega, by show 0 ≤ 0; omega⟩ dX11_unsafeOn_22 ⟨0, (by simp [tw2, tw1, p1]), congrArg (fun z => some (Value.int z)) (by rw [if_pos rfl]; first | (rw [cnt_nI (by omega)]; done) | (rw [cnt_nI (by omega), cnt_nI (by omega)]; done) | rfl | (simp [p1]; done)), hM1⟩

theorem nmX11_raiseFor : nmV yX11_raiseFor RX11 1 := by decide +kernel

set_option maxHeartbeats 1000000 in
set_option maxRecDepth 100000 in
theorem c_X11_raiseFor (l : Launch) (G : GT) (B : Nat → Nat) (th : Int32) (mc : Nat → Int32) (cp : Nat → Nat) (f : Nat → Nat → Int32) (g : Nat → Nat) (H : Heap) (hM : MP G B th mc cp f g H) (D : Nat → Prop) (hD : DP G D H.size) (hB : DB D B cp g) (i : Int32) : MwV l G D H yX11_raiseFor wsX11_raiseFor { frames := 8, cells := 0, slots := 0, locals := 188 } [.ref (B 0), .int i] 0 0 (fun v t => ∃ mt : Int32, mt = tw1 (mNx i (g 3) = true) ∧ v = some (.int (if mt = 0 then mRF f g (cnt i) else 0)) ∧ MP G B mt mc cp f g t) := by
  refine mw_of (cc := cX11_raiseFor) (maxL := 2) (ret := (some .int)) (by decide) rfl (Nat.le_of_ble_eq_true rfl) ?_
  intro pZ eZ sZ mZ bZ meZ cZ ls S hr hlk hl hHs hG hGX
  have S : CallFix pZ mZ cZ cX11_raiseFor 2 sZ _ wsX11_raiseFor RX11 := S
  have hx := S.1
  have hb := S.2.1
  have hown := S.2.2.2.1
  have hts := S.2.2.2.2
  have hl : lv_has ls 2 [(0, .ref (B 0)), (1, .int i)] := hl
  have hS : va_S D H H [] := va_S.rf
  have hI := hM.1
  have hgb := hI.1.1
  have hg0 := hI.1.2.1
  have hg1 := hI.1.2.2.1
  have hg3 := hI.1.2.2.2.1
  have hg4 := hI.1.2.2.2.2.1
  have hg5 := hI.1.2.2.2.2.2
  refine lv_aload_n hx hb dX11_raiseFor_0 rfl (lv_at hl 0 rfl) ?_
  refine lv_aload_n hx hb dX11_raiseFor_1 rfl (lv_at hl 0 rfl) ?_
  refine lv_iload_n hx hb dX11_raiseFor_2 rfl (lv_at hl 1 rfl) ?_
  refine rd_V (As := [.int i]) (rest := [.ref (B 0)]) (v := some (.int (b2i (mNx i (g 3) = true)))) S hG (c_X11_isNoProcedure l G B th mc cp f g H hM i) gX11_raiseFor_X11_isNoProcedure rfl ⟨rfl, rfl⟩ nmX11_isNoProcedure ⟨Nat.le_of_ble_eq_true rfl, Nat.le_of_ble_eq_true rfl⟩ (rd_rcv hG.1 (mP_0 hM) rfl) rfl hl.1 rfl (Nat.le_of_ble_eq_true rfl) ⟨by show 0 ≤ 0; omega, by show 0 ≤ 0; omega⟩ dX11_raiseFor_3 ?_
  refine W.eq (g2 := F0 mZ 6 ls [.int (b2i (mNx i (g 3) = true)), .ref (B 0)]) rfl ?_
  refine lv_iconst (v := 1) hx hb dX11_raiseFor_6 (by decide) ?_
  refine mw_V (As := [.int (b2i (mNx i (g 3) = true)), .int 1]) (rest := []) S hD hGX hG hS (c_X11_start l G B th mc cp f g H hM D (dp_le hD hS.1) hB (mNx i (g 3) = true) inferInstance 1 (by decide)) (fun _ h => h) gX11_raiseFor_X11_start rfl ⟨rfl, rfl⟩ nmX11_start ⟨Nat.le_of_ble_eq_true rfl, Nat.le_of_ble_eq_true rfl⟩ (rd_rcv hG.1 (mP_0 hM) rfl) rfl hl.1 rfl (Nat.le_of_ble_eq_true rfl) ⟨by show 0 + 0 ≤ 0; omega, by show 0 + 0 ≤ 0; omega⟩ dX11_raiseFor_7 (fun H1 locs1 v1 hS1 hs1 hP1 hG1 => ?_)
  by_cases p1 : mNx i (g 3) = true
  · obtain ⟨hv1, hM1⟩ := hP1.1 p1
    subst hv1
    refine W.eq (g2 := F0 mZ 10 ls [.int 1]) rfl ?_
    refine lv_if_eq (tgt := 17) hx hb dX11_raiseFor_10 (by decide) (fun c => absurd c (by decide)) (fun _ => ?_)
    refine lv_iconst (v := 0) hx hb dX11_raiseFor_13 (by decide) ?_
    refine lv_goto (tgt := 22) hx hb dX11_raiseFor_14 (by decide) ?_
    exact mw_iret S hr hlk hS1 ⟨by show 0 ≤ 0; omega, by show 0 ≤ 0; omega⟩ dX11_raiseFor_22 ⟨1, (by simp [tw2, tw1, p1]), congrArg (fun z => some (Value.int z)) (by exact (if_neg (by decide)).symm), hM1⟩
  · obtain ⟨hv1, hM1⟩ := hP1.2 p1
    subst hv1
    refine W.eq (g2 := F0 mZ 10 ls [.int 0]) rfl ?_
    refine lv_if_eq (tgt := 17) hx hb dX11_raiseFor_10 (by decide) (fun _ => ?_) (fun c => absurd (by decide) c)
    obtain ⟨ki, hki, rfl⟩ := mNx_c p1 (by omega)
    refine lv_aload_n hx hb dX11_raiseFor_17 rfl (lv_at hl 0 rfl) ?_
    refine lv_iload_n hx hb dX11_raiseFor_18 rfl (lv_at hl 1 rfl) ?_
    refine rd_V (As := [.int (nI ki)]) (rest := []) (v := some (.int (mRF f g ki))) S hG1 (c_X11_raiseForNow l G B 0 mc cp f g H1 hM1 ki (by omega)) gX11_raiseFor_X11_raiseForNow rfl ⟨rfl, rfl⟩ nmX11_raiseForNow ⟨Nat.le_of_ble_eq_true rfl, Nat.le_of_ble_eq_true rfl⟩ (rd_rcv hG1.1 (mP_0 hM1) rfl) rfl hl.1 rfl (Nat.le_of_ble_eq_true rfl) ⟨by show 0 ≤ 0; omega, by show 0 ≤ 0; omega⟩ dX11_raiseFor_19 ?_
    refine W.eq (g2 := F0 mZ 22 ls [.int (mRF f g ki)]) rfl ?_
    exact mw_iret S hr hlk hS1 ⟨by show 0 ≤ 0; omega, by show 0 ≤ 0; omega⟩ dX11_raiseFor_22 ⟨0, (by simp [tw2, tw1, p1]), congrArg (fun z => some (Value.int z)) (by rw [if_pos rfl]; first | (rw [cnt_nI (by omega)]; done) | (rw [cnt_nI (by omega), cnt_nI (by omega)]; done) | rfl | (simp [p1]; done)), hM1⟩

