/-! public methods that change rows -/
def fS (f : Nat → Nat → Int32) (fr i : Nat) (v : Int32) : Nat → Nat → Int32 := fun j => if j = fr then upd (f fr) i v else f j
section FSS
variable {G : GT} {B : Nat → Nat} {th : Int32} {mc : Nat → Int32} {cp g : Nat → Nat} {f : Nat → Nat → Int32} {i j : Nat} {v : Int32}
theorem mD_1 : mD cp g 1 := Or.inl (by decide)
theorem mD_2 : mD cp g 2 := Or.inl (by decide)
theorem mD_3 : mD cp g 3 := Or.inl (by decide)
theorem mD_4 : mD cp g 4 := Or.inl (by decide)
theorem mC_f1 (h : j ≠ 1) : mC G B th mc cp (fS f 15 i v) g j = mC G B th mc cp f g j := by
  unfold mC
  rw [if_neg h, if_neg h]
  rfl
theorem mC_f2 (h : j ≠ 2) : mC G B th mc cp (fS f 16 i v) g j = mC G B th mc cp f g j := by
  unfold mC
  rw [if_neg h, if_neg h]
  rfl
theorem mC_f3 (h : j ≠ 3) : mC G B th mc cp (fS f 28 i v) g j = mC G B th mc cp f g j := by
  unfold mC
  rw [if_neg h, if_neg h]
  rfl
theorem mC_f4 (h : j ≠ 4) : mC G B th mc cp (fS f 29 i v) g j = mC G B th mc cp f g j := by
  unfold mC
  rw [if_neg h, if_neg h]
  rfl
theorem mI_k {k : Nat} (h : MI cp f g) (hk : k < 3) : MI cp (fS f 15 i (nI k)) g := by
  obtain ⟨h1, h2, h3, h4, h5⟩ := h
  refine ⟨h1, h2, h3, fun a ha => ?_, h5⟩
  by_cases e : a = i
  · exact ⟨k, hk, by show upd (f 15) i (nI k) a = nI k; unfold upd; rw [if_pos e]⟩
  · obtain ⟨k2, h6, h7⟩ := h4 a ha
    exact ⟨k2, h6, by show upd (f 15) i (nI k) a = nI k2; unfold upd; rw [if_neg e]; exact h7⟩
end FSS
theorem nmX11_load : nmV yX11_load RX11 1 := by decide +kernel

set_option maxHeartbeats 1000000 in
set_option maxRecDepth 100000 in
theorem c_X11_load (l : Launch) (G : GT) (B : Nat → Nat) (th : Int32) (mc : Nat → Int32) (cp : Nat → Nat) (f : Nat → Nat → Int32) (g : Nat → Nat) (H : Heap) (hM : MP G B th mc cp f g H) (D : Nat → Prop) (hD : DP G D H.size) (hB : DB D B cp g) (c : Int32) : MwV l G D H yX11_load wsX11_load { frames := 2, cells := 0, slots := 0, locals := 44 } [.ref (B 0), .int c] 0 0 (fun v u => ∃ mt : Int32, mt = tw1 (mNr c 0 3 = true) ∧ v = some (.int (if mt = 0 then f 28 (cnt c) else 0)) ∧ MP G B mt mc cp (if mt = 0 then fS f 28 (cnt c) (nI (g 0)) else f) g u) := by
  refine mw_of (cc := cX11_load) (maxL := 3) (ret := (some .int)) (by decide) rfl (Nat.le_of_ble_eq_true rfl) ?_
  intro pZ eZ sZ mZ bZ meZ cZ ls S hr hlk hl hHs hG hGX
  have S : CallFix pZ mZ cZ cX11_load 3 sZ _ wsX11_load RX11 := S
  have hx := S.1
  have hb := S.2.1
  have hown := S.2.2.2.1
  have hts := S.2.2.2.2
  have hl : lv_has ls 3 [(0, .ref (B 0)), (1, .int c)] := hl
  have w0 := hts (.fieldLink RX11 29 "MinimaRoomModel" "loaded" "[I") (by decide +kernel)
  have w1 := hts (.fieldLink RX11 156 "MinimaRoomModel" "now" "I") (by decide +kernel)
  have iX11 : ∀ w ∈ u_ws RX11 TX11 11, w ∈ wsX11_load := by decide +kernel
  have hS : va_S D H H [] := va_S.rf
  have hI := hM.1
  have hgb := hI.1.1
  have hg0 := hI.1.2.1
  have hg1 := hI.1.2.2.1
  have hg3 := hI.1.2.2.2.1
  have hg4 := hI.1.2.2.2.2.1
  have hg5 := hI.1.2.2.2.2.2
  refine lv_aload_n hx hb dX11_load_0 rfl (lv_at hl 0 rfl) ?_
  refine lv_iload_n hx hb dX11_load_1 rfl (lv_at hl 1 rfl) ?_
  refine rd_S (As := [.int c]) (rest := [.ref (B 0)]) (v := some (.int (b2i (mNr c 0 3 = true)))) S hG (c_X11_isNoCrew l G H c) gX11_load_X11_isNoCrew rfl ⟨rfl, rfl⟩ nmX11_isNoCrew ⟨Nat.le_of_ble_eq_true rfl, Nat.le_of_ble_eq_true rfl⟩ rfl hl.1 rfl (Nat.le_of_ble_eq_true rfl) ⟨by show 0 ≤ 0; omega, by show 0 ≤ 0; omega⟩ dX11_load_2 ?_
  refine W.eq (g2 := F0 mZ 5 ls [.int (b2i (mNr c 0 3 = true)), .ref (B 0)]) rfl ?_
  refine lv_iconst (v := 1) hx hb dX11_load_5 (by decide) ?_
  refine mw_V (As := [.int (b2i (mNr c 0 3 = true)), .int 1]) (rest := []) S hD hGX hG hS (c_X11_start l G B th mc cp f g H hM D (dp_le hD hS.1) hB (mNr c 0 3 = true) inferInstance 1 (by decide)) (fun _ h => h) gX11_load_X11_start rfl ⟨rfl, rfl⟩ nmX11_start ⟨Nat.le_of_ble_eq_true rfl, Nat.le_of_ble_eq_true rfl⟩ (rd_rcv hG.1 (mP_0 hM) rfl) rfl hl.1 rfl (Nat.le_of_ble_eq_true rfl) ⟨by show 0 + 0 ≤ 0; omega, by show 0 + 0 ≤ 0; omega⟩ dX11_load_6 (fun H1 locs1 v1 hS1 hs1 hP1 hG1 => ?_)
  by_cases p1 : mNr c 0 3 = true
  · obtain ⟨hv1, hM1⟩ := hP1.1 p1
    subst hv1
    refine W.eq (g2 := F0 mZ 9 ls [.int 1]) rfl ?_
    refine lv_if_eq (tgt := 14) hx hb dX11_load_9 (by decide) (fun c => absurd c (by decide)) (fun _ => ?_)
    refine lv_iconst (v := 0) hx hb dX11_load_12 (by decide) ?_
    exact mw_iret S hr hlk hS1 ⟨by show 0 ≤ 0; omega, by show 0 ≤ 0; omega⟩ dX11_load_13 ⟨1, (by simp [tw3, tw2, tw1, p1]), congrArg (fun z => some (Value.int z)) (by exact (if_neg (by decide)).symm), (by rw [if_neg (by decide)]; exact hM1)⟩
  · obtain ⟨hv1, hM1⟩ := hP1.2 p1
    subst hv1
    refine W.eq (g2 := F0 mZ 9 ls [.int 0]) rfl ?_
    refine lv_if_eq (tgt := 14) hx hb dX11_load_9 (by decide) (fun _ => ?_) (fun c => absurd (by decide) c)
    obtain ⟨kc, hkc, rfl⟩ := mNr_c (n := 4) p1 (by decide)
    refine lv_aload_n hx hb dX11_load_14 rfl (lv_at hl 0 rfl) ?_
    refine rd_get (own := RX11) (x := .ref (B 3)) S hG1.1 iX11 (mP_0 hM1) 9 rfl (by decide) w0 rfl dX11_load_15 ?_
    refine lv_iload_n hx hb dX11_load_18 rfl (lv_at hl 1 rfl) ?_
    refine rd_iald S hG1.1 (mP_3 hM1) (vp_in_nI (by omega) (by decide)) dX11_load_19 ?_
    refine W.eq (g2 := F0 mZ 20 ls [.int (f 28 kc)]) (by rw [nI_clamp (n := kc) (by omega)]) ?_
    refine lv_topi (fun x2 ex2 => ?_)
    refine lv_istore_n (lv' := [(2, .int x2), (0, .ref (B 0)), (1, .int (nI kc))]) hx hb dX11_load_20 rfl hl (by decide) rfl (fun ls hl => ?_)
    refine lv_aload_n hx hb dX11_load_21 rfl (lv_at hl 1 rfl) ?_
    refine rd_get (own := RX11) (x := .ref (B 3)) S hG1.1 iX11 (mP_0 hM1) 9 rfl (by decide) w0 rfl dX11_load_22 ?_
    refine lv_iload_n hx hb dX11_load_25 rfl (lv_at hl 2 rfl) ?_
    refine lv_aload_n hx hb dX11_load_26 rfl (lv_at hl 1 rfl) ?_
    refine rd_get (own := RX11) (x := .int (nI (g 0))) S hG1.1 iX11 (mP_0 hM1) 1 rfl (by decide) w1 rfl dX11_load_27 ?_
    refine mw_iast S hD hG1 hS1 (hB.1 _ mD_3) (mP_3 hM1) (vp_in_nI (by omega) (by decide)) dX11_load_30 (fun H3 locs3 hn3 hz3 hq3 hS3 hG3 => ?_)
    have hM3 : MP G B 0 mc cp (fS f 28 kc (nI (g 0))) g H3 := mp_one hM1 hB (k := 3) mD_3 (by rw [nI_clamp (by omega)] at hn3; exact hn3) hq3 (fun j _ hj => mC_f3 hj) hM1.1 (fun _ h => h)
    refine lv_iload_n hx hb dX11_load_31 rfl (lv_at hl 0 rfl) ?_
    exact mw_iret S hr hlk hS3 ⟨by show 0 ≤ 0; omega, by show 0 ≤ 0; omega⟩ dX11_load_32 ⟨0, (by simp [tw3, tw2, tw1, p1]), congrArg (fun z => some (Value.int z)) (by subst ex2; first | (rw [if_pos rfl]; done) | (rw [if_pos rfl, cnt_nI (by omega)]; done) | (rw [if_pos rfl]; simp [fS, upd, cnt_nI, p1]; done) | (rw [if_pos rfl, cnt_nI (by omega)]; simp [fS, upd, p1]; done)), (by subst ex2; rw [if_pos rfl]; first | exact hM3 | (rw [cnt_nI (by omega)]; exact hM3) | (rw [cnt_nI (by omega), cnt_nI (by omega)]; exact hM3))⟩

theorem nmX11_read : nmV yX11_read RX11 1 := by decide +kernel

set_option maxHeartbeats 1000000 in
set_option maxRecDepth 100000 in
theorem c_X11_read (l : Launch) (G : GT) (B : Nat → Nat) (th : Int32) (mc : Nat → Int32) (cp : Nat → Nat) (f : Nat → Nat → Int32) (g : Nat → Nat) (H : Heap) (hM : MP G B th mc cp f g H) (D : Nat → Prop) (hD : DP G D H.size) (hB : DB D B cp g) (c : Int32) : MwV l G D H yX11_read wsX11_read { frames := 2, cells := 0, slots := 0, locals := 44 } [.ref (B 0), .int c] 0 0 (fun v u => ∃ mt : Int32, mt = tw1 (mNr c 0 3 = true) ∧ v = some (.int (if mt = 0 then nI (g 5) - f 29 (cnt c) else 0)) ∧ MP G B mt mc cp (if mt = 0 then fS f 29 (cnt c) (nI (g 5)) else f) g u) := by
  refine mw_of (cc := cX11_read) (maxL := 3) (ret := (some .int)) (by decide) rfl (Nat.le_of_ble_eq_true rfl) ?_
  intro pZ eZ sZ mZ bZ meZ cZ ls S hr hlk hl hHs hG hGX
  have S : CallFix pZ mZ cZ cX11_read 3 sZ _ wsX11_read RX11 := S
  have hx := S.1
  have hb := S.2.1
  have hown := S.2.2.2.1
  have hts := S.2.2.2.2
  have hl : lv_has ls 3 [(0, .ref (B 0)), (1, .int c)] := hl
  have w0 := hts (.fieldLink RX11 26 "MinimaRoomModel" "notices" "Ljava/util/ArrayList;") (by decide +kernel)
  have w1 := hts (.fieldLink RX11 32 "MinimaRoomModel" "read" "[I") (by decide +kernel)
  have iX11 : ∀ w ∈ u_ws RX11 TX11 11, w ∈ wsX11_read := by decide +kernel
  have hS : va_S D H H [] := va_S.rf
  have hI := hM.1
  have hgb := hI.1.1
  have hg0 := hI.1.2.1
  have hg1 := hI.1.2.2.1
  have hg3 := hI.1.2.2.2.1
  have hg4 := hI.1.2.2.2.2.1
  have hg5 := hI.1.2.2.2.2.2
  refine lv_aload_n hx hb dX11_read_0 rfl (lv_at hl 0 rfl) ?_
  refine lv_iload_n hx hb dX11_read_1 rfl (lv_at hl 1 rfl) ?_
  refine rd_S (As := [.int c]) (rest := [.ref (B 0)]) (v := some (.int (b2i (mNr c 0 3 = true)))) S hG (c_X11_isNoCrew l G H c) gX11_read_X11_isNoCrew rfl ⟨rfl, rfl⟩ nmX11_isNoCrew ⟨Nat.le_of_ble_eq_true rfl, Nat.le_of_ble_eq_true rfl⟩ rfl hl.1 rfl (Nat.le_of_ble_eq_true rfl) ⟨by show 0 ≤ 0; omega, by show 0 ≤ 0; omega⟩ dX11_read_2 ?_
  refine W.eq (g2 := F0 mZ 5 ls [.int (b2i (mNr c 0 3 = true)), .ref (B 0)]) rfl ?_
  refine lv_iconst (v := 1) hx hb dX11_read_5 (by decide) ?_
  refine mw_V (As := [.int (b2i (mNr c 0 3 = true)), .int 1]) (rest := []) S hD hGX hG hS (c_X11_start l G B th mc cp f g H hM D (dp_le hD hS.1) hB (mNr c 0 3 = true) inferInstance 1 (by decide)) (fun _ h => h) gX11_read_X11_start rfl ⟨rfl, rfl⟩ nmX11_start ⟨Nat.le_of_ble_eq_true rfl, Nat.le_of_ble_eq_true rfl⟩ (rd_rcv hG.1 (mP_0 hM) rfl) rfl hl.1 rfl (Nat.le_of_ble_eq_true rfl) ⟨by show 0 + 0 ≤ 0; omega, by show 0 + 0 ≤ 0; omega⟩ dX11_read_6 (fun H1 locs1 v1 hS1 hs1 hP1 hG1 => ?_)
  by_cases p1 : mNr c 0 3 = true
  · obtain ⟨hv1, hM1⟩ := hP1.1 p1
    subst hv1
    refine W.eq (g2 := F0 mZ 9 ls [.int 1]) rfl ?_
    refine lv_if_eq (tgt := 14) hx hb dX11_read_9 (by decide) (fun c => absurd c (by decide)) (fun _ => ?_)
    refine lv_iconst (v := 0) hx hb dX11_read_12 (by decide) ?_
    exact mw_iret S hr hlk hS1 ⟨by show 0 ≤ 0; omega, by show 0 ≤ 0; omega⟩ dX11_read_13 ⟨1, (by simp [tw3, tw2, tw1, p1]), congrArg (fun z => some (Value.int z)) (by exact (if_neg (by decide)).symm), (by rw [if_neg (by decide)]; exact hM1)⟩
  · obtain ⟨hv1, hM1⟩ := hP1.2 p1
    subst hv1
    refine W.eq (g2 := F0 mZ 9 ls [.int 0]) rfl ?_
    refine lv_if_eq (tgt := 14) hx hb dX11_read_9 (by decide) (fun _ => ?_) (fun c => absurd (by decide) c)
    obtain ⟨kc, hkc, rfl⟩ := mNr_c (n := 4) p1 (by decide)
    refine lv_aload_n hx hb dX11_read_14 rfl (lv_at hl 0 rfl) ?_
    refine rd_get (own := RX11) (x := .ref (B 7)) S hG1.1 iX11 (mP_0 hM1) 8 rfl (by decide) w0 rfl dX11_read_15 ?_
    refine rd_V (As := []) (rest := []) (v := some (.int (nI (g 5)))) S hG1 (c_Jx4a65c_size_8abf5 l G H1 (B 7) (eA G B cp 7 10) (mc 7) (nI (g 5)) (mP_7 hM1)) gX11_read_Jx4a65c_size_8abf5 rfl ⟨rfl, rfl⟩ nmJx4a65c_size_8abf5 ⟨Nat.le_of_ble_eq_true rfl, Nat.le_of_ble_eq_true rfl⟩ (rd_rcv hG1.1 (mP_7 hM1) rfl) rfl hl.1 rfl (Nat.le_of_ble_eq_true rfl) ⟨by show 0 ≤ 0; omega, by show 0 ≤ 0; omega⟩ dX11_read_18 ?_
    refine W.eq (g2 := F0 mZ 21 ls [.int (nI (g 5))]) rfl ?_
    refine lv_aload_n hx hb dX11_read_21 rfl (lv_at hl 0 rfl) ?_
    refine rd_get (own := RX11) (x := .ref (B 4)) S hG1.1 iX11 (mP_0 hM1) 10 rfl (by decide) w1 rfl dX11_read_22 ?_
    refine lv_iload_n hx hb dX11_read_25 rfl (lv_at hl 1 rfl) ?_
    refine rd_iald S hG1.1 (mP_4 hM1) (vp_in_nI (by omega) (by decide)) dX11_read_26 ?_
    refine W.eq (g2 := F0 mZ 27 ls [.int (f 29 kc), .int (nI (g 5))]) (by rw [nI_clamp (n := kc) (by omega)]) ?_
    refine lv_isub hx hb dX11_read_27 ?_
    refine lv_topi (fun x2 ex2 => ?_)
    refine lv_istore_n (lv' := [(2, .int x2), (0, .ref (B 0)), (1, .int (nI kc))]) hx hb dX11_read_28 rfl hl (by decide) rfl (fun ls hl => ?_)
    refine lv_aload_n hx hb dX11_read_29 rfl (lv_at hl 1 rfl) ?_
    refine rd_get (own := RX11) (x := .ref (B 4)) S hG1.1 iX11 (mP_0 hM1) 10 rfl (by decide) w1 rfl dX11_read_30 ?_
    refine lv_iload_n hx hb dX11_read_33 rfl (lv_at hl 2 rfl) ?_
    refine lv_aload_n hx hb dX11_read_34 rfl (lv_at hl 1 rfl) ?_
    refine rd_get (own := RX11) (x := .ref (B 7)) S hG1.1 iX11 (mP_0 hM1) 8 rfl (by decide) w0 rfl dX11_read_35 ?_
    refine rd_V (As := []) (rest := [.int (nI kc), .ref (B 4)]) (v := some (.int (nI (g 5)))) S hG1 (c_Jx4a65c_size_8abf5 l G H1 (B 7) (eA G B cp 7 10) (mc 7) (nI (g 5)) (mP_7 hM1)) gX11_read_Jx4a65c_size_8abf5 rfl ⟨rfl, rfl⟩ nmJx4a65c_size_8abf5 ⟨Nat.le_of_ble_eq_true rfl, Nat.le_of_ble_eq_true rfl⟩ (rd_rcv hG1.1 (mP_7 hM1) rfl) rfl hl.1 rfl (Nat.le_of_ble_eq_true rfl) ⟨by show 0 ≤ 0; omega, by show 0 ≤ 0; omega⟩ dX11_read_38 ?_
    refine W.eq (g2 := F0 mZ 41 ls [.int (nI (g 5)), .int (nI kc), .ref (B 4)]) rfl ?_
    refine mw_iast S hD hG1 hS1 (hB.1 _ mD_4) (mP_4 hM1) (vp_in_nI (by omega) (by decide)) dX11_read_41 (fun H3 locs3 hn3 hz3 hq3 hS3 hG3 => ?_)
    have hM3 : MP G B 0 mc cp (fS f 29 kc (nI (g 5))) g H3 := mp_one hM1 hB (k := 4) mD_4 (by rw [nI_clamp (by omega)] at hn3; exact hn3) hq3 (fun j _ hj => mC_f4 hj) hM1.1 (fun _ h => h)
    refine lv_iload_n hx hb dX11_read_42 rfl (lv_at hl 0 rfl) ?_
    exact mw_iret S hr hlk hS3 ⟨by show 0 ≤ 0; omega, by show 0 ≤ 0; omega⟩ dX11_read_43 ⟨0, (by simp [tw3, tw2, tw1, p1]), congrArg (fun z => some (Value.int z)) (by subst ex2; first | (rw [if_pos rfl]; done) | (rw [if_pos rfl, cnt_nI (by omega)]; done) | (rw [if_pos rfl]; simp [fS, upd, cnt_nI, p1]; done) | (rw [if_pos rfl, cnt_nI (by omega)]; simp [fS, upd, p1]; done)), (by subst ex2; rw [if_pos rfl]; first | exact hM3 | (rw [cnt_nI (by omega)]; exact hM3) | (rw [cnt_nI (by omega), cnt_nI (by omega)]; exact hM3))⟩

theorem nmX11_check : nmV yX11_check RX11 2 := by decide +kernel

set_option maxHeartbeats 1000000 in
set_option maxRecDepth 100000 in
theorem c_X11_check (l : Launch) (G : GT) (B : Nat → Nat) (th : Int32) (mc : Nat → Int32) (cp : Nat → Nat) (f : Nat → Nat → Int32) (g : Nat → Nat) (H : Heap) (hM : MP G B th mc cp f g H) (D : Nat → Prop) (hD : DP G D H.size) (hB : DB D B cp g) (i d : Int32) : MwV l G D H yX11_check wsX11_check { frames := 2, cells := 0, slots := 0, locals := 44 } [.ref (B 0), .int i, .int d] 0 0 (fun v u => ∃ mt : Int32, mt = tw2 (mNr i 0 2 = true) (¬ inB d 0 200 = true) ∧ v = some (.int (if mt = 0 then imin 399 (nI (g 0) + d) else 0)) ∧ MP G B mt mc cp (if mt = 0 then fS f 16 (cnt i) (imin 399 (nI (g 0) + d)) else f) g u) := by
  refine mw_of (cc := cX11_check) (maxL := 3) (ret := (some .int)) (by decide) rfl (Nat.le_of_ble_eq_true rfl) ?_
  intro pZ eZ sZ mZ bZ meZ cZ ls S hr hlk hl hHs hG hGX
  have S : CallFix pZ mZ cZ cX11_check 3 sZ _ wsX11_check RX11 := S
  have hx := S.1
  have hb := S.2.1
  have hown := S.2.2.2.1
  have hts := S.2.2.2.2
  have hl : lv_has ls 3 [(0, .ref (B 0)), (1, .int i), (2, .int d)] := hl
  have w0 := hts (.fieldLink RX11 20 "MinimaRoomModel" "checks" "[I") (by decide +kernel)
  have w1 := hts (.fieldLink RX11 156 "MinimaRoomModel" "now" "I") (by decide +kernel)
  have iX11 : ∀ w ∈ u_ws RX11 TX11 11, w ∈ wsX11_check := by decide +kernel
  have m_min_163 : [.methodLink RX11 163 Lib.Math.min.name, .static Lib.Math.min.name, .initialized "java/lang/Math", .code Lib.Math.min.name Lib.Math.min.code 2 (some .int)] ⊆ wsX11_check := by decide +kernel
  have hS : va_S D H H [] := va_S.rf
  have hI := hM.1
  have hgb := hI.1.1
  have hg0 := hI.1.2.1
  have hg1 := hI.1.2.2.1
  have hg3 := hI.1.2.2.2.1
  have hg4 := hI.1.2.2.2.2.1
  have hg5 := hI.1.2.2.2.2.2
  refine lv_aload_n hx hb dX11_check_0 rfl (lv_at hl 0 rfl) ?_
  refine lv_iload_n hx hb dX11_check_1 rfl (lv_at hl 1 rfl) ?_
  refine rd_S (As := [.int i]) (rest := [.ref (B 0)]) (v := some (.int (b2i (mNr i 0 2 = true)))) S hG (c_X11_isNoAid l G H i) gX11_check_X11_isNoAid rfl ⟨rfl, rfl⟩ nmX11_isNoAid ⟨Nat.le_of_ble_eq_true rfl, Nat.le_of_ble_eq_true rfl⟩ rfl hl.1 rfl (Nat.le_of_ble_eq_true rfl) ⟨by show 0 ≤ 0; omega, by show 0 ≤ 0; omega⟩ dX11_check_2 ?_
  refine W.eq (g2 := F0 mZ 5 ls [.int (b2i (mNr i 0 2 = true)), .ref (B 0)]) rfl ?_
  refine lv_iconst (v := 1) hx hb dX11_check_5 (by decide) ?_
  refine mw_V (As := [.int (b2i (mNr i 0 2 = true)), .int 1]) (rest := []) S hD hGX hG hS (c_X11_start l G B th mc cp f g H hM D (dp_le hD hS.1) hB (mNr i 0 2 = true) inferInstance 1 (by decide)) (fun _ h => h) gX11_check_X11_start rfl ⟨rfl, rfl⟩ nmX11_start ⟨Nat.le_of_ble_eq_true rfl, Nat.le_of_ble_eq_true rfl⟩ (rd_rcv hG.1 (mP_0 hM) rfl) rfl hl.1 rfl (Nat.le_of_ble_eq_true rfl) ⟨by show 0 + 0 ≤ 0; omega, by show 0 + 0 ≤ 0; omega⟩ dX11_check_6 (fun H1 locs1 v1 hS1 hs1 hP1 hG1 => ?_)
  by_cases p1 : mNr i 0 2 = true
  · obtain ⟨hv1, hM1⟩ := hP1.1 p1
    subst hv1
    refine W.eq (g2 := F0 mZ 9 ls [.int 1]) rfl ?_
    refine lv_if_ne (tgt := 36) hx hb dX11_check_9 (by decide) (fun _ => ?_) (fun c => absurd c (by decide))
    refine lv_iconst (v := 0) hx hb dX11_check_36 (by decide) ?_
    exact mw_iret S hr hlk hS1 ⟨by show 0 ≤ 0; omega, by show 0 ≤ 0; omega⟩ dX11_check_37 ⟨1, (by simp [tw3, tw2, tw1, p1]), congrArg (fun z => some (Value.int z)) (by exact (if_neg (by decide)).symm), (by rw [if_neg (by decide)]; exact hM1)⟩
  · obtain ⟨hv1, hM1⟩ := hP1.2 p1
    subst hv1
    refine W.eq (g2 := F0 mZ 9 ls [.int 0]) rfl ?_
    refine lv_if_ne (tgt := 36) hx hb dX11_check_9 (by decide) (fun c => absurd (by decide) c) (fun _ => ?_)
    refine lv_aload_n hx hb dX11_check_12 rfl (lv_at hl 0 rfl) ?_
    refine lv_iload_n hx hb dX11_check_13 rfl (lv_at hl 2 rfl) ?_
    refine lv_iconst (v := 0) hx hb dX11_check_14 (by decide) ?_
    refine lv_sipush (v := 200) hx hb dX11_check_15 (by decide) ?_
    refine rd_S (As := [.int d, .int 0, .int 200]) (rest := [.ref (B 0)]) (v := some (.int (b2i (inB d 0 200 = true)))) S hG1 (c_X11_isIn l G H1 d 0 200) gX11_check_X11_isIn rfl ⟨rfl, rfl⟩ nmX11_isIn ⟨Nat.le_of_ble_eq_true rfl, Nat.le_of_ble_eq_true rfl⟩ rfl hl.1 rfl (Nat.le_of_ble_eq_true rfl) ⟨by show 0 ≤ 0; omega, by show 0 ≤ 0; omega⟩ dX11_check_18 ?_
    refine W.eq (g2 := F0 mZ 21 ls [.int (b2i (inB d 0 200 = true)), .ref (B 0)]) rfl ?_
    refine lv_if_ne (tgt := 28) hx hb dX11_check_21 (by decide) (fun c2 => ?_) (fun c2 => ?_)
    · have c2 := b2i_nz.mp c2
      refine lv_iconst (v := 0) hx hb dX11_check_28 (by decide) ?_
      refine lv_iconst (v := 2) hx hb dX11_check_29 (by decide) ?_
      refine mw_V (As := [.int 0, .int 2]) (rest := []) S hD hGX hG1 hS1 (c_X11_refuse l G B 0 mc cp f g H1 hM1 rfl D (dp_le hD hS1.1) hB (False) inferInstance 2 (by decide)) (fun _ h => h) gX11_check_X11_refuse rfl ⟨rfl, rfl⟩ nmX11_refuse ⟨Nat.le_of_ble_eq_true rfl, Nat.le_of_ble_eq_true rfl⟩ (rd_rcv hG1.1 (mP_0 hM1) rfl) rfl hl.1 rfl (Nat.le_of_ble_eq_true rfl) ⟨by show 0 + 0 ≤ 0; omega, by show 0 + 0 ≤ 0; omega⟩ dX11_check_30 (fun H3 locs3 v3 hS3 hs3 hP3 hG3 => ?_)
      obtain ⟨hv3, hM3⟩ := hP3.2 not_false
      subst hv3
      refine W.eq (g2 := F0 mZ 33 ls [.int 0]) rfl ?_
      refine lv_if_eq (tgt := 38) hx hb dX11_check_33 (by decide) (fun _ => ?_) (fun c => absurd (by decide) c)
      obtain ⟨ki, hki, rfl⟩ := mNr_c (n := 3) p1 (by decide)
      refine lv_aload_n hx hb dX11_check_38 rfl (lv_at hl 0 rfl) ?_
      refine rd_get (own := RX11) (x := .ref (B 2)) S hG3.1 iX11 (mP_0 hM3) 6 rfl (by decide) w0 rfl dX11_check_39 ?_
      refine lv_iload_n hx hb dX11_check_42 rfl (lv_at hl 1 rfl) ?_
      refine lv_sipush (v := 399) hx hb dX11_check_43 (by decide) ?_
      refine lv_aload_n hx hb dX11_check_46 rfl (lv_at hl 0 rfl) ?_
      refine rd_get (own := RX11) (x := .int (nI (g 0))) S hG3.1 iX11 (mP_0 hM3) 1 rfl (by decide) w1 rfl dX11_check_47 ?_
      refine lv_iload_n hx hb dX11_check_50 rfl (lv_at hl 2 rfl) ?_
      refine lv_iadd hx hb dX11_check_51 ?_
      refine rd_min S hl.1 m_min_163 ⟨Nat.le_of_ble_eq_true rfl, Nat.le_of_ble_eq_true rfl⟩ (Nat.le_of_ble_eq_true rfl) ⟨by show 0 ≤ 0; omega, by show 0 ≤ 0; omega⟩ dX11_check_52 ?_
      refine W.eq (g2 := F0 mZ 55 ls [.int (imin 399 ((nI (g 0)) + d)), .int (nI ki), .ref (B 2)]) rfl ?_
      refine mw_iast S hD hG3 hS3 (hB.1 _ mD_2) (mP_2 hM3) (vp_in_nI (by omega) (by decide)) dX11_check_55 (fun H4 locs4 hn4 hz4 hq4 hS4 hG4 => ?_)
      have hM4 : MP G B 0 mc cp (fS f 16 ki (imin 399 ((nI (g 0)) + d))) g H4 := mp_one hM3 hB (k := 2) mD_2 (by rw [nI_clamp (by omega)] at hn4; exact hn4) hq4 (fun j _ hj => mC_f2 hj) hM3.1 (fun _ h => h)
      refine lv_aload_n hx hb dX11_check_56 rfl (lv_at hl 0 rfl) ?_
      refine rd_get (own := RX11) (x := .ref (B 2)) S hG4.1 iX11 (mP_0 hM4) 6 rfl (by decide) w0 rfl dX11_check_57 ?_
      refine lv_iload_n hx hb dX11_check_60 rfl (lv_at hl 1 rfl) ?_
      refine rd_iald S hG4.1 (mP_2 hM4) (vp_in_nI (by omega) (by decide)) dX11_check_61 ?_
      refine W.eq (g2 := F0 mZ 62 ls [.int ((fS f 16 ki (imin 399 ((nI (g 0)) + d))) 16 ki)]) (by rw [nI_clamp (n := ki) (by omega)]) ?_
      exact mw_iret S hr hlk hS4 ⟨by show 0 ≤ 0; omega, by show 0 ≤ 0; omega⟩ dX11_check_62 ⟨0, (by simp [tw3, tw2, tw1, p1, c2]), congrArg (fun z => some (Value.int z)) (by first | (rw [if_pos rfl]; done) | (rw [if_pos rfl, cnt_nI (by omega)]; done) | (rw [if_pos rfl]; simp [fS, upd, cnt_nI, p1, c2]; done) | (rw [if_pos rfl, cnt_nI (by omega)]; simp [fS, upd, p1, c2]; done)), (by rw [if_pos rfl]; first | exact hM4 | (rw [cnt_nI (by omega)]; exact hM4) | (rw [cnt_nI (by omega), cnt_nI (by omega)]; exact hM4))⟩
    · have c2 := b2i_z.mp c2
      refine lv_iconst (v := 1) hx hb dX11_check_24 (by decide) ?_
      refine lv_goto (tgt := 29) hx hb dX11_check_25 (by decide) ?_
      refine lv_iconst (v := 2) hx hb dX11_check_29 (by decide) ?_
      refine mw_V (As := [.int 1, .int 2]) (rest := []) S hD hGX hG1 hS1 (c_X11_refuse l G B 0 mc cp f g H1 hM1 rfl D (dp_le hD hS1.1) hB (True) inferInstance 2 (by decide)) (fun _ h => h) gX11_check_X11_refuse rfl ⟨rfl, rfl⟩ nmX11_refuse ⟨Nat.le_of_ble_eq_true rfl, Nat.le_of_ble_eq_true rfl⟩ (rd_rcv hG1.1 (mP_0 hM1) rfl) rfl hl.1 rfl (Nat.le_of_ble_eq_true rfl) ⟨by show 0 + 0 ≤ 0; omega, by show 0 + 0 ≤ 0; omega⟩ dX11_check_30 (fun H5 locs5 v5 hS5 hs5 hP5 hG5 => ?_)
      obtain ⟨hv5, hM5⟩ := hP5.1 trivial
      subst hv5
      refine W.eq (g2 := F0 mZ 33 ls [.int 1]) rfl ?_
      refine lv_if_eq (tgt := 38) hx hb dX11_check_33 (by decide) (fun c => absurd c (by decide)) (fun _ => ?_)
      refine lv_iconst (v := 0) hx hb dX11_check_36 (by decide) ?_
      exact mw_iret S hr hlk hS5 ⟨by show 0 ≤ 0; omega, by show 0 ≤ 0; omega⟩ dX11_check_37 ⟨2, (by simp [tw3, tw2, tw1, p1, c2]), congrArg (fun z => some (Value.int z)) (by exact (if_neg (by decide)).symm), (by rw [if_neg (by decide)]; exact hM5)⟩

theorem nmX11_aid : nmV yX11_aid RX11 2 := by decide +kernel

set_option maxHeartbeats 1000000 in
set_option maxRecDepth 100000 in
theorem c_X11_aid (l : Launch) (G : GT) (B : Nat → Nat) (th : Int32) (mc : Nat → Int32) (cp : Nat → Nat) (f : Nat → Nat → Int32) (g : Nat → Nat) (H : Heap) (hM : MP G B th mc cp f g H) (D : Nat → Prop) (hD : DP G D H.size) (hB : DB D B cp g) (i k : Int32) : MwV l G D H yX11_aid wsX11_aid { frames := 2, cells := 0, slots := 0, locals := 44 } [.ref (B 0), .int i, .int k] 0 0 (fun v u => ∃ mt : Int32, mt = tw2 (mNr i 0 2 = true) (¬ inB k 0 2 = true) ∧ v = some (.int (if mt = 0 then f 15 (cnt i) else 0)) ∧ MP G B mt mc cp (if mt = 0 then fS f 15 (cnt i) k else f) g u) := by
  refine mw_of (cc := cX11_aid) (maxL := 4) (ret := (some .int)) (by decide) rfl (Nat.le_of_ble_eq_true rfl) ?_
  intro pZ eZ sZ mZ bZ meZ cZ ls S hr hlk hl hHs hG hGX
  have S : CallFix pZ mZ cZ cX11_aid 4 sZ _ wsX11_aid RX11 := S
  have hx := S.1
  have hb := S.2.1
  have hown := S.2.2.2.1
  have hts := S.2.2.2.2
  have hl : lv_has ls 4 [(0, .ref (B 0)), (1, .int i), (2, .int k)] := hl
  have w0 := hts (.fieldLink RX11 16 "MinimaRoomModel" "kinds" "[I") (by decide +kernel)
  have iX11 : ∀ w ∈ u_ws RX11 TX11 11, w ∈ wsX11_aid := by decide +kernel
  have hS : va_S D H H [] := va_S.rf
  have hI := hM.1
  have hgb := hI.1.1
  have hg0 := hI.1.2.1
  have hg1 := hI.1.2.2.1
  have hg3 := hI.1.2.2.2.1
  have hg4 := hI.1.2.2.2.2.1
  have hg5 := hI.1.2.2.2.2.2
  refine lv_aload_n hx hb dX11_aid_0 rfl (lv_at hl 0 rfl) ?_
  refine lv_iload_n hx hb dX11_aid_1 rfl (lv_at hl 1 rfl) ?_
  refine rd_S (As := [.int i]) (rest := [.ref (B 0)]) (v := some (.int (b2i (mNr i 0 2 = true)))) S hG (c_X11_isNoAid l G H i) gX11_aid_X11_isNoAid rfl ⟨rfl, rfl⟩ nmX11_isNoAid ⟨Nat.le_of_ble_eq_true rfl, Nat.le_of_ble_eq_true rfl⟩ rfl hl.1 rfl (Nat.le_of_ble_eq_true rfl) ⟨by show 0 ≤ 0; omega, by show 0 ≤ 0; omega⟩ dX11_aid_2 ?_
  refine W.eq (g2 := F0 mZ 5 ls [.int (b2i (mNr i 0 2 = true)), .ref (B 0)]) rfl ?_
  refine lv_iconst (v := 1) hx hb dX11_aid_5 (by decide) ?_
  refine mw_V (As := [.int (b2i (mNr i 0 2 = true)), .int 1]) (rest := []) S hD hGX hG hS (c_X11_start l G B th mc cp f g H hM D (dp_le hD hS.1) hB (mNr i 0 2 = true) inferInstance 1 (by decide)) (fun _ h => h) gX11_aid_X11_start rfl ⟨rfl, rfl⟩ nmX11_start ⟨Nat.le_of_ble_eq_true rfl, Nat.le_of_ble_eq_true rfl⟩ (rd_rcv hG.1 (mP_0 hM) rfl) rfl hl.1 rfl (Nat.le_of_ble_eq_true rfl) ⟨by show 0 + 0 ≤ 0; omega, by show 0 + 0 ≤ 0; omega⟩ dX11_aid_6 (fun H1 locs1 v1 hS1 hs1 hP1 hG1 => ?_)
  by_cases p1 : mNr i 0 2 = true
  · obtain ⟨hv1, hM1⟩ := hP1.1 p1
    subst hv1
    refine W.eq (g2 := F0 mZ 9 ls [.int 1]) rfl ?_
    refine lv_if_ne (tgt := 34) hx hb dX11_aid_9 (by decide) (fun _ => ?_) (fun c => absurd c (by decide))
    refine lv_iconst (v := 0) hx hb dX11_aid_34 (by decide) ?_
    exact mw_iret S hr hlk hS1 ⟨by show 0 ≤ 0; omega, by show 0 ≤ 0; omega⟩ dX11_aid_35 ⟨1, (by simp [tw3, tw2, tw1, p1]), congrArg (fun z => some (Value.int z)) (by exact (if_neg (by decide)).symm), (by rw [if_neg (by decide)]; exact hM1)⟩
  · obtain ⟨hv1, hM1⟩ := hP1.2 p1
    subst hv1
    refine W.eq (g2 := F0 mZ 9 ls [.int 0]) rfl ?_
    refine lv_if_ne (tgt := 34) hx hb dX11_aid_9 (by decide) (fun c => absurd (by decide) c) (fun _ => ?_)
    refine lv_aload_n hx hb dX11_aid_12 rfl (lv_at hl 0 rfl) ?_
    refine lv_iload_n hx hb dX11_aid_13 rfl (lv_at hl 2 rfl) ?_
    refine lv_iconst (v := 0) hx hb dX11_aid_14 (by decide) ?_
    refine lv_iconst (v := 2) hx hb dX11_aid_15 (by decide) ?_
    refine rd_S (As := [.int k, .int 0, .int 2]) (rest := [.ref (B 0)]) (v := some (.int (b2i (inB k 0 2 = true)))) S hG1 (c_X11_isIn l G H1 k 0 2) gX11_aid_X11_isIn rfl ⟨rfl, rfl⟩ nmX11_isIn ⟨Nat.le_of_ble_eq_true rfl, Nat.le_of_ble_eq_true rfl⟩ rfl hl.1 rfl (Nat.le_of_ble_eq_true rfl) ⟨by show 0 ≤ 0; omega, by show 0 ≤ 0; omega⟩ dX11_aid_16 ?_
    refine W.eq (g2 := F0 mZ 19 ls [.int (b2i (inB k 0 2 = true)), .ref (B 0)]) rfl ?_
    refine lv_if_ne (tgt := 26) hx hb dX11_aid_19 (by decide) (fun c2 => ?_) (fun c2 => ?_)
    · have c2 := b2i_nz.mp c2
      refine lv_iconst (v := 0) hx hb dX11_aid_26 (by decide) ?_
      refine lv_iconst (v := 2) hx hb dX11_aid_27 (by decide) ?_
      refine mw_V (As := [.int 0, .int 2]) (rest := []) S hD hGX hG1 hS1 (c_X11_refuse l G B 0 mc cp f g H1 hM1 rfl D (dp_le hD hS1.1) hB (False) inferInstance 2 (by decide)) (fun _ h => h) gX11_aid_X11_refuse rfl ⟨rfl, rfl⟩ nmX11_refuse ⟨Nat.le_of_ble_eq_true rfl, Nat.le_of_ble_eq_true rfl⟩ (rd_rcv hG1.1 (mP_0 hM1) rfl) rfl hl.1 rfl (Nat.le_of_ble_eq_true rfl) ⟨by show 0 + 0 ≤ 0; omega, by show 0 + 0 ≤ 0; omega⟩ dX11_aid_28 (fun H3 locs3 v3 hS3 hs3 hP3 hG3 => ?_)
      obtain ⟨hv3, hM3⟩ := hP3.2 not_false
      subst hv3
      refine W.eq (g2 := F0 mZ 31 ls [.int 0]) rfl ?_
      refine lv_if_eq (tgt := 36) hx hb dX11_aid_31 (by decide) (fun _ => ?_) (fun c => absurd (by decide) c)
      obtain ⟨ki, hki, rfl⟩ := mNr_c (n := 3) p1 (by decide)
      obtain ⟨kk, hkk, rfl⟩ := inB_c (n := 2) (by decide) c2
      refine lv_aload_n hx hb dX11_aid_36 rfl (lv_at hl 0 rfl) ?_
      refine rd_get (own := RX11) (x := .ref (B 1)) S hG3.1 iX11 (mP_0 hM3) 5 rfl (by decide) w0 rfl dX11_aid_37 ?_
      refine lv_iload_n hx hb dX11_aid_40 rfl (lv_at hl 1 rfl) ?_
      refine rd_iald S hG3.1 (mP_1 hM3) (vp_in_nI (by omega) (by decide)) dX11_aid_41 ?_
      refine W.eq (g2 := F0 mZ 42 ls [.int (f 15 ki)]) (by rw [nI_clamp (n := ki) (by omega)]) ?_
      refine lv_topi (fun x4 ex4 => ?_)
      refine lv_istore_n (lv' := [(3, .int x4), (0, .ref (B 0)), (1, .int (nI ki)), (2, .int (nI kk))]) hx hb dX11_aid_42 rfl hl (by decide) rfl (fun ls hl => ?_)
      refine lv_aload_n hx hb dX11_aid_43 rfl (lv_at hl 1 rfl) ?_
      refine rd_get (own := RX11) (x := .ref (B 1)) S hG3.1 iX11 (mP_0 hM3) 5 rfl (by decide) w0 rfl dX11_aid_44 ?_
      refine lv_iload_n hx hb dX11_aid_47 rfl (lv_at hl 2 rfl) ?_
      refine lv_iload_n hx hb dX11_aid_48 rfl (lv_at hl 3 rfl) ?_
      refine mw_iast S hD hG3 hS3 (hB.1 _ mD_1) (mP_1 hM3) (vp_in_nI (by omega) (by decide)) dX11_aid_49 (fun H5 locs5 hn5 hz5 hq5 hS5 hG5 => ?_)
      have hM5 : MP G B 0 mc cp (fS f 15 ki (nI kk)) g H5 := mp_one hM3 hB (k := 1) mD_1 (by rw [nI_clamp (by omega)] at hn5; exact hn5) hq5 (fun j _ hj => mC_f1 hj) (mI_k hM3.1 (by omega)) (fun _ h => h)
      refine lv_iload_n hx hb dX11_aid_50 rfl (lv_at hl 0 rfl) ?_
      exact mw_iret S hr hlk hS5 ⟨by show 0 ≤ 0; omega, by show 0 ≤ 0; omega⟩ dX11_aid_51 ⟨0, (by simp [tw3, tw2, tw1, p1, c2]), congrArg (fun z => some (Value.int z)) (by subst ex4; first | (rw [if_pos rfl]; done) | (rw [if_pos rfl, cnt_nI (by omega)]; done) | (rw [if_pos rfl]; simp [fS, upd, cnt_nI, p1, c2]; done) | (rw [if_pos rfl, cnt_nI (by omega)]; simp [fS, upd, p1, c2]; done)), (by subst ex4; rw [if_pos rfl]; first | exact hM5 | (rw [cnt_nI (by omega)]; exact hM5) | (rw [cnt_nI (by omega), cnt_nI (by omega)]; exact hM5))⟩
    · have c2 := b2i_z.mp c2
      refine lv_iconst (v := 1) hx hb dX11_aid_22 (by decide) ?_
      refine lv_goto (tgt := 27) hx hb dX11_aid_23 (by decide) ?_
      refine lv_iconst (v := 2) hx hb dX11_aid_27 (by decide) ?_
      refine mw_V (As := [.int 1, .int 2]) (rest := []) S hD hGX hG1 hS1 (c_X11_refuse l G B 0 mc cp f g H1 hM1 rfl D (dp_le hD hS1.1) hB (True) inferInstance 2 (by decide)) (fun _ h => h) gX11_aid_X11_refuse rfl ⟨rfl, rfl⟩ nmX11_refuse ⟨Nat.le_of_ble_eq_true rfl, Nat.le_of_ble_eq_true rfl⟩ (rd_rcv hG1.1 (mP_0 hM1) rfl) rfl hl.1 rfl (Nat.le_of_ble_eq_true rfl) ⟨by show 0 + 0 ≤ 0; omega, by show 0 + 0 ≤ 0; omega⟩ dX11_aid_28 (fun H6 locs6 v6 hS6 hs6 hP6 hG6 => ?_)
      obtain ⟨hv6, hM6⟩ := hP6.1 trivial
      subst hv6
      refine W.eq (g2 := F0 mZ 31 ls [.int 1]) rfl ?_
      refine lv_if_eq (tgt := 36) hx hb dX11_aid_31 (by decide) (fun c => absurd c (by decide)) (fun _ => ?_)
      refine lv_iconst (v := 0) hx hb dX11_aid_34 (by decide) ?_
      exact mw_iret S hr hlk hS6 ⟨by show 0 ≤ 0; omega, by show 0 ≤ 0; omega⟩ dX11_aid_35 ⟨2, (by simp [tw3, tw2, tw1, p1, c2]), congrArg (fun z => some (Value.int z)) (by exact (if_neg (by decide)).symm), (by rw [if_neg (by decide)]; exact hM6)⟩

