theorem nmX9_init : nmV yX9_init RX9 5 := by decide +kernel

set_option maxHeartbeats 1000000 in
theorem c_X9_init (l : Launch) (G : GT) (H : Heap) (o : Nat) (x1 x2 x3 x4 x5 : Int32) (ho : va_at G.1 vwCl (o, .inr (10, [.int 0, .int 0, .int 0, .int 0, .int 0])) H) (hzo : G.2.2.1 ≤ o) (hz : G.2.2.1 ≤ H.size) : MwV l G (fun q => q = o ∨ H.size ≤ q) H yX9_init wsX9_init { frames := 1, cells := 0, slots := 0, locals := 12 } [.ref o, .int x1, .int x2, .int x3, .int x4, .int x5] 0 0 (fun v t => v = none ∧ va_at G.1 vwCl (o, .inr (10, [.int x1, .int x2, .int x3, .int x4, .int x5])) t ∧ t.size = H.size ∧ ∀ q : Nat, q ≠ o → t[q]? = H[q]?) := by
  refine mw_ofI (cc := cX9_init) (maxL := 6) (ret := none) (by decide) rfl (Nat.le_of_ble_eq_true rfl) ?_
  intro pZ eZ sZ mZ bZ meZ cZ ls S hr hlk hnm hl hHs hG hGX
  have S : CallFix pZ mZ cZ cX9_init 6 sZ _ wsX9_init RX9 := S
  have hx := S.1
  have hb := S.2.1
  have hown := S.2.2.2.1
  have hts := S.2.2.2.2
  have hl : lv_has ls 6 [(0, .ref o), (1, .int x1), (2, .int x2), (3, .int x3), (4, .int x4), (5, .int x5)] := hl
  have hD : DP G (fun q => q = o ∨ H.size ≤ q) H.size := ⟨fun q h => Or.inr h, fun q h => h.elim (fun e => by rw [e]; exact hzo) (Nat.le_trans hz)⟩
  have hS0 : va_S (fun q => q = o ∨ H.size ≤ q) H H [] := va_S.rf
  have iX9 : ∀ w ∈ u_ws RX9 TX9 5, w ∈ wsX9_init := by decide +kernel
  refine lv_aload_n hx hb dX9_init_0 rfl (lv_at hl 0 rfl) ?_
  refine W.objInit hx hb hown (hts (.methodLink RX9 3 objectInit) (by decide +kernel)) (hts (.instanceMethod objectInit) (by decide +kernel)) (hts (.code objectInit ⟨#[0xb1]⟩ 1 none) (by decide +kernel)) rfl (hl.1.trans S.2.2.1.symm) rfl dX9_init_1 (Nat.le_of_ble_eq_true rfl) (Nat.le_of_ble_eq_true rfl) ?_
  refine W.eq (g2 := F0 mZ 4 ls []) rfl ?_
  refine lv_aload_n hx hb dX9_init_4 rfl (lv_at hl 0 rfl) ?_
  refine lv_iload_n hx hb dX9_init_5 rfl (lv_at hl 1 rfl) ?_
  refine mw_putF (ty := .int) S hD hG hS0 (Or.inl rfl) iX9 tyX9 tyX9_ok nmX9 ho 0 rfl (by decide) (hts (.fieldLink RX9 9 "MinimaRoomModel$Obstacle" "x" "I") (by decide +kernel)) rfl hnm rfl (by decide +kernel) rfl rfl (Nat.le_of_ble_eq_true rfl) dX9_init_6 (fun H1 locs1 hn1 hz1 hq1 hS1 hG1 => ?_)
  refine lv_aload_n hx hb dX9_init_9 rfl (lv_at hl 0 rfl) ?_
  refine lv_iload_n hx hb dX9_init_10 rfl (lv_at hl 2 rfl) ?_
  refine mw_putF (ty := .int) S hD hG1 hS1 (Or.inl rfl) iX9 tyX9 tyX9_ok nmX9 hn1 1 rfl (by decide) (hts (.fieldLink RX9 15 "MinimaRoomModel$Obstacle" "y" "I") (by decide +kernel)) rfl hnm rfl (by decide +kernel) rfl rfl (Nat.le_of_ble_eq_true rfl) dX9_init_11 (fun H2 locs2 hn2 hz2 hq2 hS2 hG2 => ?_)
  refine lv_aload_n hx hb dX9_init_14 rfl (lv_at hl 0 rfl) ?_
  refine lv_iload_n hx hb dX9_init_15 rfl (lv_at hl 3 rfl) ?_
  refine mw_putF (ty := .int) S hD hG2 hS2 (Or.inl rfl) iX9 tyX9 tyX9_ok nmX9 hn2 2 rfl (by decide) (hts (.fieldLink RX9 18 "MinimaRoomModel$Obstacle" "top" "I") (by decide +kernel)) rfl hnm rfl (by decide +kernel) rfl rfl (Nat.le_of_ble_eq_true rfl) dX9_init_16 (fun H3 locs3 hn3 hz3 hq3 hS3 hG3 => ?_)
  refine lv_aload_n hx hb dX9_init_19 rfl (lv_at hl 0 rfl) ?_
  refine lv_iload hx hb dX9_init_20 (lv_at hl 4 rfl) ?_
  refine mw_putF (ty := .int) S hD hG3 hS3 (Or.inl rfl) iX9 tyX9 tyX9_ok nmX9 hn3 3 rfl (by decide) (hts (.fieldLink RX9 21 "MinimaRoomModel$Obstacle" "from" "I") (by decide +kernel)) rfl hnm rfl (by decide +kernel) rfl rfl (Nat.le_of_ble_eq_true rfl) dX9_init_22 (fun H4 locs4 hn4 hz4 hq4 hS4 hG4 => ?_)
  refine lv_aload_n hx hb dX9_init_25 rfl (lv_at hl 0 rfl) ?_
  refine lv_iload hx hb dX9_init_26 (lv_at hl 5 rfl) ?_
  refine mw_putf (ty := .int) S hD hG4 hS4 (Or.inl rfl) iX9 tyX9 tyX9_ok nmX9 hn4 4 rfl (by decide) (hts (.fieldLink RX9 24 "MinimaRoomModel$Obstacle" "to" "I") (by decide +kernel)) rfl (by decide +kernel) rfl rfl (Nat.le_of_ble_eq_true rfl) dX9_init_28 (fun H5 locs5 hn5 hz5 hq5 hS5 hG5 => ?_)
  exact mw_vret S hr hlk hS5 ⟨Nat.zero_le _, Nat.zero_le _⟩ dX9_init_31 ⟨rfl, hn5, by omega, fun q hq => (hq5 q hq).trans ((hq4 q hq).trans ((hq3 q hq).trans ((hq2 q hq).trans (hq1 q hq))))⟩

theorem nmX8_init : nmV yX8_init RX8 5 := by decide +kernel

set_option maxHeartbeats 1000000 in
theorem c_X8_init (l : Launch) (G : GT) (H : Heap) (o : Nat) (x1 x2 x3 x4 x5 : Int32) (ho : va_at G.1 vwCl (o, .inr (9, [.int 0, .int 0, .int 0, .int 0, .int 0])) H) (hzo : G.2.2.1 ≤ o) (hz : G.2.2.1 ≤ H.size) : MwV l G (fun q => q = o ∨ H.size ≤ q) H yX8_init wsX8_init { frames := 1, cells := 0, slots := 0, locals := 12 } [.ref o, .int x1, .int x2, .int x3, .int x4, .int x5] 0 0 (fun v t => v = none ∧ va_at G.1 vwCl (o, .inr (9, [.int x1, .int x2, .int x3, .int x4, .int x5])) t ∧ t.size = H.size ∧ ∀ q : Nat, q ≠ o → t[q]? = H[q]?) := by
  refine mw_ofI (cc := cX8_init) (maxL := 6) (ret := none) (by decide) rfl (Nat.le_of_ble_eq_true rfl) ?_
  intro pZ eZ sZ mZ bZ meZ cZ ls S hr hlk hnm hl hHs hG hGX
  have S : CallFix pZ mZ cZ cX8_init 6 sZ _ wsX8_init RX8 := S
  have hx := S.1
  have hb := S.2.1
  have hown := S.2.2.2.1
  have hts := S.2.2.2.2
  have hl : lv_has ls 6 [(0, .ref o), (1, .int x1), (2, .int x2), (3, .int x3), (4, .int x4), (5, .int x5)] := hl
  have hD : DP G (fun q => q = o ∨ H.size ≤ q) H.size := ⟨fun q h => Or.inr h, fun q h => h.elim (fun e => by rw [e]; exact hzo) (Nat.le_trans hz)⟩
  have hS0 : va_S (fun q => q = o ∨ H.size ≤ q) H H [] := va_S.rf
  have iX8 : ∀ w ∈ u_ws RX8 TX8 5, w ∈ wsX8_init := by decide +kernel
  refine lv_aload_n hx hb dX8_init_0 rfl (lv_at hl 0 rfl) ?_
  refine W.objInit hx hb hown (hts (.methodLink RX8 1 objectInit) (by decide +kernel)) (hts (.instanceMethod objectInit) (by decide +kernel)) (hts (.code objectInit ⟨#[0xb1]⟩ 1 none) (by decide +kernel)) rfl (hl.1.trans S.2.2.1.symm) rfl dX8_init_1 (Nat.le_of_ble_eq_true rfl) (Nat.le_of_ble_eq_true rfl) ?_
  refine W.eq (g2 := F0 mZ 4 ls []) rfl ?_
  refine lv_aload_n hx hb dX8_init_4 rfl (lv_at hl 0 rfl) ?_
  refine lv_iload_n hx hb dX8_init_5 rfl (lv_at hl 1 rfl) ?_
  refine mw_putF (ty := .int) S hD hG hS0 (Or.inl rfl) iX8 tyX8 tyX8_ok nmX8 ho 0 rfl (by decide) (hts (.fieldLink RX8 7 "MinimaRoomModel$Notice" "kind" "I") (by decide +kernel)) rfl hnm rfl (by decide +kernel) rfl rfl (Nat.le_of_ble_eq_true rfl) dX8_init_6 (fun H1 locs1 hn1 hz1 hq1 hS1 hG1 => ?_)
  refine lv_aload_n hx hb dX8_init_9 rfl (lv_at hl 0 rfl) ?_
  refine lv_iload_n hx hb dX8_init_10 rfl (lv_at hl 2 rfl) ?_
  refine mw_putF (ty := .int) S hD hG1 hS1 (Or.inl rfl) iX8 tyX8 tyX8_ok nmX8 hn1 1 rfl (by decide) (hts (.fieldLink RX8 13 "MinimaRoomModel$Notice" "of" "I") (by decide +kernel)) rfl hnm rfl (by decide +kernel) rfl rfl (Nat.le_of_ble_eq_true rfl) dX8_init_11 (fun H2 locs2 hn2 hz2 hq2 hS2 hG2 => ?_)
  refine lv_aload_n hx hb dX8_init_14 rfl (lv_at hl 0 rfl) ?_
  refine lv_iload_n hx hb dX8_init_15 rfl (lv_at hl 3 rfl) ?_
  refine mw_putF (ty := .int) S hD hG2 hS2 (Or.inl rfl) iX8 tyX8 tyX8_ok nmX8 hn2 2 rfl (by decide) (hts (.fieldLink RX8 16 "MinimaRoomModel$Notice" "by" "I") (by decide +kernel)) rfl hnm rfl (by decide +kernel) rfl rfl (Nat.le_of_ble_eq_true rfl) dX8_init_16 (fun H3 locs3 hn3 hz3 hq3 hS3 hG3 => ?_)
  refine lv_aload_n hx hb dX8_init_19 rfl (lv_at hl 0 rfl) ?_
  refine lv_iload hx hb dX8_init_20 (lv_at hl 4 rfl) ?_
  refine mw_putF (ty := .int) S hD hG3 hS3 (Or.inl rfl) iX8 tyX8 tyX8_ok nmX8 hn3 3 rfl (by decide) (hts (.fieldLink RX8 19 "MinimaRoomModel$Notice" "from" "I") (by decide +kernel)) rfl hnm rfl (by decide +kernel) rfl rfl (Nat.le_of_ble_eq_true rfl) dX8_init_22 (fun H4 locs4 hn4 hz4 hq4 hS4 hG4 => ?_)
  refine lv_aload_n hx hb dX8_init_25 rfl (lv_at hl 0 rfl) ?_
  refine lv_iload hx hb dX8_init_26 (lv_at hl 5 rfl) ?_
  refine mw_putF (ty := .int) S hD hG4 hS4 (Or.inl rfl) iX8 tyX8 tyX8_ok nmX8 hn4 4 rfl (by decide) (hts (.fieldLink RX8 22 "MinimaRoomModel$Notice" "to" "I") (by decide +kernel)) rfl hnm rfl (by decide +kernel) rfl rfl (Nat.le_of_ble_eq_true rfl) dX8_init_28 (fun H5 locs5 hn5 hz5 hq5 hS5 hG5 => ?_)
  exact mw_vret S hr hlk hS5 ⟨Nat.zero_le _, Nat.zero_le _⟩ dX8_init_31 ⟨rfl, hn5, by omega, fun q hq => (hq5 q hq).trans ((hq4 q hq).trans ((hq3 q hq).trans ((hq2 q hq).trans (hq1 q hq))))⟩

