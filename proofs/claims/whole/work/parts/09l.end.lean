/-! the end of an obstacle -/
section FSE
variable {G : GT} {B : Nat → Nat} {th : Int32} {mc : Nat → Int32} {cp g : Nat → Nat} {f : Nat → Nat → Int32} {i j : Nat} {v : Int32}
theorem fS_i {k : Nat} : fS f k i v k i = v := by
  unfold fS
  rw [if_pos rfl]
  exact if_pos rfl
theorem mC_ob (h : i < 20) : mC G B th mc cp f g (20 + i) = .inr (10, [.int (f 10 i), .int (f 11 i), .int (f 12 i), .int (f 13 i), .int (f 14 i)]) := by
  unfold mC
  rw [if_neg (by omega), if_neg (by omega), if_neg (by omega), if_neg (by omega), if_neg (by omega), if_neg (by omega), if_neg (by omega), if_neg (by omega), if_neg (by omega), if_neg (by omega), if_neg (by omega), if_pos (by omega), Nat.add_sub_cancel_left]
theorem mC_f14 (hj : mD cp g j) (h : j ≠ 20 + i) : mC G B th mc cp (fS f 14 i v) g j = mC G B th mc cp f g j := by
  by_cases h1 : 20 ≤ j ∧ j < 40
  · obtain ⟨q, rfl⟩ : ∃ q, j = 20 + q := ⟨j - 20, by omega⟩
    rw [mC_ob (by omega), mC_ob (by omega)]
    have e : fS f 14 i v 14 q = f 14 q := by
      unfold fS
      rw [if_pos rfl]
      exact if_neg (by omega)
    rw [e]
    rfl
  · have h2 : j < 11 ∨ 40 ≤ j := by
      unfold mD at hj
      omega
    unfold mC
    by_cases h3 : j < 40
    · have h4 : j = 0 ∨ j = 1 ∨ j = 2 ∨ j = 3 ∨ j = 4 ∨ j = 5 ∨ j = 6 ∨ j = 7 ∨ j = 8 ∨ j = 9 ∨ j = 10 := by omega
      rcases h4 with rfl | rfl | rfl | rfl | rfl | rfl | rfl | rfl | rfl | rfl | rfl <;> rfl
    · have h5 : ∀ n, n < 11 → ¬ j = n := fun n hn => by omega
      simp only [h5 0 (by decide), h5 1 (by decide), h5 2 (by decide), h5 3 (by decide), h5 4 (by decide), h5 5 (by decide), h5 6 (by decide), h5 7 (by decide), h5 8 (by decide), h5 9 (by decide), h5 10 (by decide), h3, if_false]
      rfl
end FSE
theorem nmX11_end : nmV yX11_end RX11 1 := by decide +kernel

set_option maxHeartbeats 1000000 in
set_option maxRecDepth 100000 in
theorem c_X11_end (l : Launch) (G : GT) (B : Nat → Nat) (th : Int32) (mc : Nat → Int32) (cp : Nat → Nat) (f : Nat → Nat → Int32) (g : Nat → Nat) (H : Heap) (hM : MP G B th mc cp f g H) (D : Nat → Prop) (hD : DP G D H.size) (hB : DB D B cp g) (i : Int32) : MwV l G D H yX11_end wsX11_end { frames := 3, cells := 0, slots := 0, locals := 64 } [.ref (B 0), .int i] 0 0 (fun v u => ∃ mt : Int32, mt = tw2 (mNx i (g 1) = true) (¬ f 14 (cnt i) = -1 ∧ ¬ nI (g 0) < f 14 (cnt i)) ∧ v = some (.int (if mt = 0 then f 14 (cnt i) else 0)) ∧ MP G B mt mc cp (if mt = 0 then fS f 14 (cnt i) (imax (nI (g 0)) (f 13 (cnt i))) else f) g u) := by
  refine mw_of (cc := cX11_end) (maxL := 4) (ret := (some .int)) (by decide) rfl (Nat.le_of_ble_eq_true rfl) ?_
  intro pZ eZ sZ mZ bZ meZ cZ ls S hr hlk hl hHs hG hGX
  have S : CallFix pZ mZ cZ cX11_end 4 sZ _ wsX11_end RX11 := S
  have hx := S.1
  have hb := S.2.1
  have hown := S.2.2.2.1
  have hts := S.2.2.2.2
  have hl : lv_has ls 4 [(0, .ref (B 0)), (1, .int i)] := hl
  have w0 := hts (.fieldLink RX11 10 "MinimaRoomModel" "obstacles" "Ljava/util/ArrayList;") (by decide +kernel)
  have w1 := hts (.classLink RX11 75 "MinimaRoomModel$Obstacle") (by decide +kernel)
  have w2 := hts (.fieldLink RX11 155 "MinimaRoomModel$Obstacle" "to" "I") (by decide +kernel)
  have w3 := hts (.fieldLink RX11 156 "MinimaRoomModel" "now" "I") (by decide +kernel)
  have w4 := hts (.fieldLink RX11 159 "MinimaRoomModel$Obstacle" "from" "I") (by decide +kernel)
  have iX11 : ∀ w ∈ u_ws RX11 TX11 11, w ∈ wsX11_end := by decide +kernel
  have iX9 : ∀ w ∈ u_ws RX9 TX9 5, w ∈ wsX11_end := by decide +kernel
  have m_max_86 : [.methodLink RX11 86 Lib.Math.max.name, .static Lib.Math.max.name, .initialized "java/lang/Math", .code Lib.Math.max.name Lib.Math.max.code 2 (some .int)] ⊆ wsX11_end := by decide +kernel
  have hS : va_S D H H [] := va_S.rf
  have hI := hM.1
  have hgb := hI.1.1
  have hg0 := hI.1.2.1
  have hg1 := hI.1.2.2.1
  have hg3 := hI.1.2.2.2.1
  have hg4 := hI.1.2.2.2.2.1
  have hg5 := hI.1.2.2.2.2.2
  refine lv_aload_n hx hb dX11_end_0 rfl (lv_at hl 0 rfl) ?_
  refine lv_aload_n hx hb dX11_end_1 rfl (lv_at hl 0 rfl) ?_
  refine lv_iload_n hx hb dX11_end_2 rfl (lv_at hl 1 rfl) ?_
  refine rd_V (As := [.int i]) (rest := [.ref (B 0)]) (v := some (.int (b2i (mNx i (g 1) = true)))) S hG (c_X11_isNoObstacle l G B th mc cp f g H hM i) gX11_end_X11_isNoObstacle rfl ⟨rfl, rfl⟩ nmX11_isNoObstacle ⟨Nat.le_of_ble_eq_true rfl, Nat.le_of_ble_eq_true rfl⟩ (rd_rcv hG.1 (mP_0 hM) rfl) rfl hl.1 rfl (Nat.le_of_ble_eq_true rfl) ⟨by show 0 ≤ 0; omega, by show 0 ≤ 0; omega⟩ dX11_end_3 ?_
  refine W.eq (g2 := F0 mZ 6 ls [.int (b2i (mNx i (g 1) = true)), .ref (B 0)]) rfl ?_
  refine lv_iconst (v := 1) hx hb dX11_end_6 (by decide) ?_
  refine mw_V (As := [.int (b2i (mNx i (g 1) = true)), .int 1]) (rest := []) S hD hGX hG hS (c_X11_start l G B th mc cp f g H hM D (dp_le hD hS.1) hB (mNx i (g 1) = true) inferInstance 1 (by decide)) (fun _ h => h) gX11_end_X11_start rfl ⟨rfl, rfl⟩ nmX11_start ⟨Nat.le_of_ble_eq_true rfl, Nat.le_of_ble_eq_true rfl⟩ (rd_rcv hG.1 (mP_0 hM) rfl) rfl hl.1 rfl (Nat.le_of_ble_eq_true rfl) ⟨by show 0 + 0 ≤ 0; omega, by show 0 + 0 ≤ 0; omega⟩ dX11_end_7 (fun H1 locs1 v1 hS1 hs1 hP1 hG1 => ?_)
  by_cases p1 : mNx i (g 1) = true
  · obtain ⟨hv1, hM1⟩ := hP1.1 p1
    subst hv1
    refine W.eq (g2 := F0 mZ 10 ls [.int 1]) rfl ?_
    refine lv_if_eq (tgt := 15) hx hb dX11_end_10 (by decide) (fun c => absurd c (by decide)) (fun _ => ?_)
    refine lv_iconst (v := 0) hx hb dX11_end_13 (by decide) ?_
    exact mw_iret S hr hlk hS1 ⟨by show 0 ≤ 0; omega, by show 0 ≤ 0; omega⟩ dX11_end_14 ⟨1, (by simp [tw3, tw2, tw1, p1]), congrArg (fun z => some (Value.int z)) (by exact (if_neg (by decide)).symm), (by rw [if_neg (by decide)]; exact hM1)⟩
  · obtain ⟨hv1, hM1⟩ := hP1.2 p1
    subst hv1
    refine W.eq (g2 := F0 mZ 10 ls [.int 0]) rfl ?_
    refine lv_if_eq (tgt := 15) hx hb dX11_end_10 (by decide) (fun _ => ?_) (fun c => absurd (by decide) c)
    obtain ⟨ki, hki, rfl⟩ := mNx_c p1 (by omega)
    have hci : cnt (nI ki) = ki := cnt_nI (by omega)
    refine lv_aload_n hx hb dX11_end_15 rfl (lv_at hl 0 rfl) ?_
    refine rd_get (own := RX11) (x := .ref (B 5)) S hG1.1 iX11 (mP_0 hM1) 4 rfl (by decide) w0 rfl dX11_end_16 ?_
    refine lv_iload_n hx hb dX11_end_19 rfl (lv_at hl 1 rfl) ?_
    refine rd_V (As := [.int (nI ki)]) (rest := []) (v := some (.ref (B (20 + ki)))) S hG1 (c_Jx4a65c_get_915e3 l G H1 (B 5) (eA G B cp 5 8) (mc 5) (g 1) (cp 5) (lsE B 20 (g 1)) (mP_5 hM1) (mP_e5 hM1 (by omega)) hM1.1.2.1.1 (hM1.1.2.1.2.2.2.2 _) ki (B (20 + ki)) (by omega) (lsE_at (by omega))) gX11_end_Jx4a65c_get_915e3 rfl ⟨rfl, rfl⟩ nmJx4a65c_get_915e3 ⟨Nat.le_of_ble_eq_true rfl, Nat.le_of_ble_eq_true rfl⟩ (rd_rcv hG1.1 (mP_5 hM1) rfl) rfl hl.1 rfl (Nat.le_of_ble_eq_true rfl) ⟨by show 0 ≤ 0; omega, by show 0 ≤ 0; omega⟩ dX11_end_20 ?_
    refine W.eq (g2 := F0 mZ 23 ls [.ref (B (20 + ki))]) rfl ?_
    refine rd_castS S hG1.1 (mP_ob hM1 (i := ki) (by omega)) rfl rfl w1 dX11_end_23 ?_
    refine lv_astore_n (lv' := [(2, .ref (B (20 + ki))), (0, .ref (B 0)), (1, .int (nI ki))]) hx hb dX11_end_26 rfl hl (by decide) rfl (fun ls hl => ?_)
    refine lv_aload_n hx hb dX11_end_27 rfl (lv_at hl 1 rfl) ?_
    refine lv_aload_n hx hb dX11_end_28 rfl (lv_at hl 0 rfl) ?_
    refine rd_get (own := RX11) (x := .int (f 14 ki)) S hG1.1 iX9 (mP_ob hM1 (i := ki) (by omega)) 4 rfl (by decide) w2 rfl dX11_end_29 ?_
    refine lv_iconst (v := (-1)) hx hb dX11_end_32 (by decide) ?_
    refine lv_icmp_eq (tgt := 51) hx hb dX11_end_33 (by decide) (fun c2 => ?_) (fun c2 => ?_)
    · refine lv_iconst (v := 0) hx hb dX11_end_51 (by decide) ?_
      refine lv_iconst (v := 2) hx hb dX11_end_52 (by decide) ?_
      refine mw_V (As := [.int 0, .int 2]) (rest := []) S hD hGX hG1 hS1 (c_X11_refuse l G B 0 mc cp f g H1 hM1 rfl D (dp_le hD hS1.1) hB (False) inferInstance 2 (by decide)) (fun _ h => h) gX11_end_X11_refuse rfl ⟨rfl, rfl⟩ nmX11_refuse ⟨Nat.le_of_ble_eq_true rfl, Nat.le_of_ble_eq_true rfl⟩ (rd_rcv hG1.1 (mP_0 hM1) rfl) rfl hl.1 rfl (Nat.le_of_ble_eq_true rfl) ⟨by show 0 + 0 ≤ 0; omega, by show 0 + 0 ≤ 0; omega⟩ dX11_end_53 (fun H3 locs3 v3 hS3 hs3 hP3 hG3 => ?_)
      obtain ⟨hv3, hM3⟩ := hP3.2 not_false
      subst hv3
      refine W.eq (g2 := F0 mZ 56 ls [.int 0]) rfl ?_
      refine lv_if_eq (tgt := 61) hx hb dX11_end_56 (by decide) (fun _ => ?_) (fun c => absurd (by decide) c)
      refine lv_aload_n hx hb dX11_end_61 rfl (lv_at hl 0 rfl) ?_
      refine rd_get (own := RX11) (x := .int (f 14 ki)) S hG3.1 iX9 (mP_ob hM3 (i := ki) (by omega)) 4 rfl (by decide) w2 rfl dX11_end_62 ?_
      refine lv_topi (fun x4 ex4 => ?_)
      refine lv_istore_n (lv' := [(3, .int x4), (2, .ref (B (20 + ki))), (0, .ref (B 0)), (1, .int (nI ki))]) hx hb dX11_end_65 rfl hl (by decide) rfl (fun ls hl => ?_)
      refine lv_aload_n hx hb dX11_end_66 rfl (lv_at hl 1 rfl) ?_
      refine lv_aload_n hx hb dX11_end_67 rfl (lv_at hl 2 rfl) ?_
      refine rd_get (own := RX11) (x := .int (nI (g 0))) S hG3.1 iX11 (mP_0 hM3) 1 rfl (by decide) w3 rfl dX11_end_68 ?_
      refine lv_aload_n hx hb dX11_end_71 rfl (lv_at hl 1 rfl) ?_
      refine rd_get (own := RX11) (x := .int (f 13 ki)) S hG3.1 iX9 (mP_ob hM3 (i := ki) (by omega)) 3 rfl (by decide) w4 rfl dX11_end_72 ?_
      refine rd_max S hl.1 m_max_86 ⟨Nat.le_of_ble_eq_true rfl, Nat.le_of_ble_eq_true rfl⟩ (Nat.le_of_ble_eq_true rfl) ⟨by show 0 ≤ 0; omega, by show 0 ≤ 0; omega⟩ dX11_end_75 ?_
      refine W.eq (g2 := F0 mZ 78 ls [.int (imax (nI (g 0)) (f 13 ki)), .ref (B (20 + ki))]) rfl ?_
      refine mw_putf (ty := .int) S hD hG3 hS3 (hB.1 _ (Or.inr (Or.inr (Or.inr (Or.inr (Or.inl ⟨by omega, by omega, by omega⟩)))) : mD cp g (20 + ki))) iX9 tyX9 tyX9_ok nmX9 (mP_ob hM3 (i := ki) (by omega)) 4 rfl (by decide) w2 rfl (by decide +kernel) rfl rfl (Nat.le_of_ble_eq_true rfl) dX11_end_78 (fun H5 locs5 hn5 hz5 hq5 hS5 hG5 => ?_)
      have hM5 : MP G B 0 mc cp (fS f 14 ki (imax (nI (g 0)) (f 13 ki))) g H5 := mp_one hM3 hB (Or.inr (Or.inr (Or.inr (Or.inr (Or.inl ⟨by omega, by omega, by omega⟩)))) : mD cp g (20 + ki)) (by rw [mC_ob (by omega), fS_i]; exact hn5) hq5 (fun j hj hne => mC_f14 hj hne) hM3.1 (fun _ h => h)
      refine lv_iload_n hx hb dX11_end_81 rfl (lv_at hl 0 rfl) ?_
      exact mw_iret S hr hlk hS5 ⟨by show 0 ≤ 0; omega, by show 0 ≤ 0; omega⟩ dX11_end_82 ⟨0, (by simp [tw3, tw2, tw1, p1, hci, c2]), congrArg (fun z => some (Value.int z)) (by subst ex4; first | (rw [if_pos rfl]; done) | (rw [if_pos rfl, cnt_nI (by omega)]; done) | (rw [if_pos rfl]; simp [fS, upd, cnt_nI, p1, hci, c2]; done) | (rw [if_pos rfl, cnt_nI (by omega)]; simp [fS, upd, p1, hci, c2]; done)), (by subst ex4; rw [if_pos rfl]; first | exact hM5 | (rw [cnt_nI (by omega)]; exact hM5) | (rw [cnt_nI (by omega), cnt_nI (by omega)]; exact hM5))⟩
    · refine lv_aload_n hx hb dX11_end_36 rfl (lv_at hl 0 rfl) ?_
      refine rd_get (own := RX11) (x := .int (f 14 ki)) S hG1.1 iX9 (mP_ob hM1 (i := ki) (by omega)) 4 rfl (by decide) w2 rfl dX11_end_37 ?_
      refine lv_aload_n hx hb dX11_end_40 rfl (lv_at hl 1 rfl) ?_
      refine rd_get (own := RX11) (x := .int (nI (g 0))) S hG1.1 iX11 (mP_0 hM1) 1 rfl (by decide) w3 rfl dX11_end_41 ?_
      refine lv_icmp_gt (tgt := 51) hx hb dX11_end_44 (by decide) (fun c6 => ?_) (fun c6 => ?_)
      · have d6 := Int32.not_le.mpr c6
        refine lv_iconst (v := 0) hx hb dX11_end_51 (by decide) ?_
        refine lv_iconst (v := 2) hx hb dX11_end_52 (by decide) ?_
        refine mw_V (As := [.int 0, .int 2]) (rest := []) S hD hGX hG1 hS1 (c_X11_refuse l G B 0 mc cp f g H1 hM1 rfl D (dp_le hD hS1.1) hB (False) inferInstance 2 (by decide)) (fun _ h => h) gX11_end_X11_refuse rfl ⟨rfl, rfl⟩ nmX11_refuse ⟨Nat.le_of_ble_eq_true rfl, Nat.le_of_ble_eq_true rfl⟩ (rd_rcv hG1.1 (mP_0 hM1) rfl) rfl hl.1 rfl (Nat.le_of_ble_eq_true rfl) ⟨by show 0 + 0 ≤ 0; omega, by show 0 + 0 ≤ 0; omega⟩ dX11_end_53 (fun H7 locs7 v7 hS7 hs7 hP7 hG7 => ?_)
        obtain ⟨hv7, hM7⟩ := hP7.2 not_false
        subst hv7
        refine W.eq (g2 := F0 mZ 56 ls [.int 0]) rfl ?_
        refine lv_if_eq (tgt := 61) hx hb dX11_end_56 (by decide) (fun _ => ?_) (fun c => absurd (by decide) c)
        refine lv_aload_n hx hb dX11_end_61 rfl (lv_at hl 0 rfl) ?_
        refine rd_get (own := RX11) (x := .int (f 14 ki)) S hG7.1 iX9 (mP_ob hM7 (i := ki) (by omega)) 4 rfl (by decide) w2 rfl dX11_end_62 ?_
        refine lv_topi (fun x8 ex8 => ?_)
        refine lv_istore_n (lv' := [(3, .int x8), (2, .ref (B (20 + ki))), (0, .ref (B 0)), (1, .int (nI ki))]) hx hb dX11_end_65 rfl hl (by decide) rfl (fun ls hl => ?_)
        refine lv_aload_n hx hb dX11_end_66 rfl (lv_at hl 1 rfl) ?_
        refine lv_aload_n hx hb dX11_end_67 rfl (lv_at hl 2 rfl) ?_
        refine rd_get (own := RX11) (x := .int (nI (g 0))) S hG7.1 iX11 (mP_0 hM7) 1 rfl (by decide) w3 rfl dX11_end_68 ?_
        refine lv_aload_n hx hb dX11_end_71 rfl (lv_at hl 1 rfl) ?_
        refine rd_get (own := RX11) (x := .int (f 13 ki)) S hG7.1 iX9 (mP_ob hM7 (i := ki) (by omega)) 3 rfl (by decide) w4 rfl dX11_end_72 ?_
        refine rd_max S hl.1 m_max_86 ⟨Nat.le_of_ble_eq_true rfl, Nat.le_of_ble_eq_true rfl⟩ (Nat.le_of_ble_eq_true rfl) ⟨by show 0 ≤ 0; omega, by show 0 ≤ 0; omega⟩ dX11_end_75 ?_
        refine W.eq (g2 := F0 mZ 78 ls [.int (imax (nI (g 0)) (f 13 ki)), .ref (B (20 + ki))]) rfl ?_
        refine mw_putf (ty := .int) S hD hG7 hS7 (hB.1 _ (Or.inr (Or.inr (Or.inr (Or.inr (Or.inl ⟨by omega, by omega, by omega⟩)))) : mD cp g (20 + ki))) iX9 tyX9 tyX9_ok nmX9 (mP_ob hM7 (i := ki) (by omega)) 4 rfl (by decide) w2 rfl (by decide +kernel) rfl rfl (Nat.le_of_ble_eq_true rfl) dX11_end_78 (fun H9 locs9 hn9 hz9 hq9 hS9 hG9 => ?_)
        have hM9 : MP G B 0 mc cp (fS f 14 ki (imax (nI (g 0)) (f 13 ki))) g H9 := mp_one hM7 hB (Or.inr (Or.inr (Or.inr (Or.inr (Or.inl ⟨by omega, by omega, by omega⟩)))) : mD cp g (20 + ki)) (by rw [mC_ob (by omega), fS_i]; exact hn9) hq9 (fun j hj hne => mC_f14 hj hne) hM7.1 (fun _ h => h)
        refine lv_iload_n hx hb dX11_end_81 rfl (lv_at hl 0 rfl) ?_
        exact mw_iret S hr hlk hS9 ⟨by show 0 ≤ 0; omega, by show 0 ≤ 0; omega⟩ dX11_end_82 ⟨0, (by simp [tw3, tw2, tw1, p1, hci, c2, c6, d6]), congrArg (fun z => some (Value.int z)) (by subst ex8; first | (rw [if_pos rfl]; done) | (rw [if_pos rfl, cnt_nI (by omega)]; done) | (rw [if_pos rfl]; simp [fS, upd, cnt_nI, p1, hci, c2, c6, d6]; done) | (rw [if_pos rfl, cnt_nI (by omega)]; simp [fS, upd, p1, hci, c2, c6, d6]; done)), (by subst ex8; rw [if_pos rfl]; first | exact hM9 | (rw [cnt_nI (by omega)]; exact hM9) | (rw [cnt_nI (by omega), cnt_nI (by omega)]; exact hM9))⟩
      · have d6 := Int32.not_lt.mp c6
        refine lv_iconst (v := 1) hx hb dX11_end_47 (by decide) ?_
        refine lv_goto (tgt := 52) hx hb dX11_end_48 (by decide) ?_
        refine lv_iconst (v := 2) hx hb dX11_end_52 (by decide) ?_
        refine mw_V (As := [.int 1, .int 2]) (rest := []) S hD hGX hG1 hS1 (c_X11_refuse l G B 0 mc cp f g H1 hM1 rfl D (dp_le hD hS1.1) hB (True) inferInstance 2 (by decide)) (fun _ h => h) gX11_end_X11_refuse rfl ⟨rfl, rfl⟩ nmX11_refuse ⟨Nat.le_of_ble_eq_true rfl, Nat.le_of_ble_eq_true rfl⟩ (rd_rcv hG1.1 (mP_0 hM1) rfl) rfl hl.1 rfl (Nat.le_of_ble_eq_true rfl) ⟨by show 0 + 0 ≤ 0; omega, by show 0 + 0 ≤ 0; omega⟩ dX11_end_53 (fun H10 locs10 v10 hS10 hs10 hP10 hG10 => ?_)
        obtain ⟨hv10, hM10⟩ := hP10.1 trivial
        subst hv10
        refine W.eq (g2 := F0 mZ 56 ls [.int 1]) rfl ?_
        refine lv_if_eq (tgt := 61) hx hb dX11_end_56 (by decide) (fun c => absurd c (by decide)) (fun _ => ?_)
        refine lv_iconst (v := 0) hx hb dX11_end_59 (by decide) ?_
        exact mw_iret S hr hlk hS10 ⟨by show 0 ≤ 0; omega, by show 0 ≤ 0; omega⟩ dX11_end_60 ⟨2, (by simp [tw3, tw2, tw1, p1, hci, c2, c6, d6]), congrArg (fun z => some (Value.int z)) (by exact (if_neg (by decide)).symm), (by rw [if_neg (by decide)]; exact hM10)⟩

