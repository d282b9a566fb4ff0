/-! the constructor of the reference -/
def bo (k : Nat) : Nat := if k = 0 then 0 else if k = 5 then 1 else if k = 1 then 2 else if k = 2 then 3 else if k = 6 then 4 else if k = 7 then 5 else if k = 3 then 6 else 7
def B0 (o k : Nat) : Nat := o + bo k
theorem bo_inj : ∀ j, j < 8 → ∀ k, k < 8 → bo j = bo k → j = k := by decide +kernel
theorem md_0 {k : Nat} (h : mD g0 g0 k) : k < 8 := by
  rcases h with h | ⟨_, h⟩ | ⟨_, h⟩ | ⟨_, h⟩ | h | h | h | h | h | h
  all_goals first | exact h | exact absurd rfl h | (have e : ∀ q, g0 q = 0 := fun _ => rfl; simp only [e] at h; omega)
theorem mi_0 : MI g0 f0 g0 := by
  refine ⟨⟨fun _ => by show (0 : Nat) < 65536; decide, Nat.zero_le _, Nat.zero_le _, Nat.zero_le _, Nat.zero_le _, Nat.zero_le _⟩, ⟨Nat.le_refl _, Nat.le_refl _, Nat.le_refl _, fun i hi => absurd hi (Nat.not_lt_zero i), fun _ => by show (0 : Nat) < 65536; decide⟩, fun i hi => absurd hi (Nat.not_lt_zero i), fun a ha => ⟨a, ha, rfl⟩, fun i hi => absurd hi (Nat.not_lt_zero i)⟩
theorem nmX11_init : nmV yX11_init RX11 0 := by decide +kernel
set_option maxHeartbeats 4000000 in
set_option maxRecDepth 100000 in
theorem c_X11_init (l : Launch) (G : GT) (H : Heap) (o : Nat) (D : Nat → Prop) (hDn : ∀ q, o ≤ q → q < o + 8 → D q) (hz : G.2.2.1 ≤ H.size) (hzo : G.2.2.1 ≤ o) (hs : H.size = o + 1) (ho0 : va_at G.1 vwCl (o, .inr (12, [.int 0, .int 0, .int 0, .int 0, .null, .null, .null, .null, .null, .null, .null])) H) : MwV l G (DO o H.size) H yX11_init wsX11_init { frames := 4, cells := 7, slots := 23, locals := 100 } [.ref o] 7 23 (fun w t => w = none ∧ MX G D o 0 f0 g0 t ∧ t.size = o + 8 ∧ ∀ q : Nat, q < o → t[q]? = H[q]?) := by
  refine mw_ofI (cc := cX11_init) (maxL := 1) (ret := none) (by decide) rfl (Nat.le_of_ble_eq_true rfl) ?_
  intro pZ eZ sZ mZ bZ meZ cZ ls S hr hlk hnm hl hHs hG0 hGX
  have S : CallFix pZ mZ cZ cX11_init 1 sZ _ wsX11_init RX11 := S
  have hx := S.1
  have hb := S.2.1
  have hown := S.2.2.2.1
  have hts := S.2.2.2.2
  have hl : lv_has ls 1 [(0, .ref o)] := hl
  have hD : DP G (DO o H.size) H.size := dp_o hzo hz
  have hS0 : va_S (DO o H.size) H H [] := va_S.rf
  have iX11 : ∀ w ∈ u_ws RX11 TX11 11, w ∈ wsX11_init := by decide +kernel
  have iL : ∀ w ∈ u_ws RJx4a65c TJx4a65c 3, w ∈ wsX11_init := by decide +kernel
  refine lv_aload_n hx hb dX11_init_0 rfl (lv_at hl 0 rfl) ?_
  refine W.objInit hx hb hown (hts (.methodLink RX11 1 objectInit) (by decide +kernel)) (hts (.instanceMethod objectInit) (by decide +kernel)) (hts (.code objectInit ⟨#[0xb1]⟩ 1 none) (by decide +kernel)) rfl (hl.1.trans S.2.2.1.symm) rfl dX11_init_1 (Nat.le_of_ble_eq_true rfl) (Nat.le_of_ble_eq_true rfl) ?_
  refine W.eq (g2 := F0 mZ 4 ls []) rfl ?_
  have hz0 : H.size = o + 1 := hs
  have hq0 : ∀ q : Nat, q < o → H[q]? = H[q]? := fun _ _ => rfl
  refine lv_aload_n hx hb dX11_init_4 rfl (lv_at hl 0 rfl) ?_
  refine mw_new (fs := [.int 0, .null, .int 0]) (ci := 0) S hG0 iL tyJx4a65c tyJx4a65c_ok (hts (.classLink RX11 7 RJx4a65c) (by decide +kernel)) (hts (.instantiable RJx4a65c 3) (by decide +kernel)) (hts (.initialized RJx4a65c) (by decide +kernel)) rfl (fun j hj => match j, hj with | 0, _ => rfl | 1, _ => rfl | 2, _ => rfl | _ + 3, h => absurd h (by omega)) ⟨Nat.le_of_ble_eq_true rfl, Nat.le_of_ble_eq_true rfl⟩ dX11_init_5 (fun Ha1 ha1 hza1 hxa1 => ?_)
  have hGa1 := gk_ext hxa1 hG0
  have hSa1 := vs_new hS0 hxa1
  refine lv_dup hx hb dX11_init_8 rfl ?_
  refine mw_I (As := []) (rest := [.ref H.size, .ref o]) S hD hGX hGa1 hSa1 (c_list l G Ha1 H.size (by omega) (by omega) ha1) (fun q h => h.elim (fun e => Or.inr (by omega)) (fun h => Or.inr (by omega))) gX11_init_Jx4a65c_init_da8c8 rfl ⟨rfl, rfl⟩ (hts (.initialized RJx4a65c) (by decide +kernel)) (hts (.methodLink RX11 9 yJx4a65c_init_da8c8) (by decide +kernel)) (hts (.instanceMethod yJx4a65c_init_da8c8) (by decide +kernel)) rfl nmJx4a65c_init_da8c8 ⟨Nat.le_of_ble_eq_true rfl, Nat.le_of_ble_eq_true rfl⟩ rfl hl.1 rfl (Nat.le_of_ble_eq_true rfl) ⟨Nat.le_of_ble_eq_true rfl, Nat.le_of_ble_eq_true rfl⟩ dX11_init_9 (fun Hb1 lb1 v1 hSb1 hsb1 hPb1 hGb1 => ?_)
  obtain ⟨hv1, hc1, hzb1, hqb1⟩ := hPb1
  subst hv1
  have kb1 : ∀ q : Nat, q < H.size → Hb1[q]? = H[q]? := fun q hq => (hqb1 q (by omega)).trans (hxa1.2 q hq)
  have hob1 := va_at.kept ho0 (kb1 o (by omega))
  refine W.eq (g2 := F0 mZ 12 ls [.ref H.size, .ref o]) rfl ?_
  refine mw_putF (ty := .object "java/util/ArrayList") S hD hGb1 hSb1 (Or.inl rfl) iX11 tyX11 tyX11_ok nmX11 hob1 4 rfl (by decide) (hts (.fieldLink RX11 10 "MinimaRoomModel" "obstacles" "Ljava/util/ArrayList;") (by decide +kernel)) rfl hnm rfl (by decide +kernel) rfl rfl (Nat.le_of_ble_eq_true rfl) dX11_init_12 (fun H1 locs1 ho1 hzc1 hqc1 hS1 hG1 => ?_)
  rw [hz0] at ho1 hc1
  have ho1 : va_at G.1 vwCl (o, .inr (12, [.int 0, .int 0, .int 0, .int 0, .ref (o + 1), .null, .null, .null, .null, .null, .null])) H1 := ho1
  have hz1 : H1.size = o + 2 := by omega
  have hc1 := va_at.kept hc1 (hqc1 (o + 1) (by omega))
  have hq1 : ∀ q : Nat, q < o → H1[q]? = H[q]? := fun q hq => (hqc1 q (by omega)).trans ((kb1 q (by omega)).trans (hq0 q hq))
  refine lv_aload_n hx hb dX11_init_15 rfl (lv_at hl 0 rfl) ?_
  refine lv_iconst (v := 3) hx hb dX11_init_16 (by decide) ?_
  refine mw_newa (N := 3) S hG1 (hts (.arrayClass .int) (by decide +kernel)) (by decide) (by decide) (by decide) ⟨Nat.le_of_ble_eq_true rfl, Nat.le_of_ble_eq_true rfl⟩ dX11_init_17 (fun Ha2 hc2_0 hza2 hxa2 => ?_)
  have hGa2_0 := gk_ext hxa2 hG1
  have hSa2_0 := vs_new hS1 hxa2
  have kk2_0 : ∀ q : Nat, q < H1.size → Ha2[q]? = H1[q]? := fun q hq => hxa2.2 q hq
  have hzs2_0 : Ha2.size = H1.size + 1 := hza2
  refine lv_dup hx hb dX11_init_19 rfl ?_
  refine lv_iconst (v := 0) hx hb dX11_init_20 (by decide) ?_
  refine lv_iconst (v := 0) hx hb dX11_init_21 (by decide) ?_
  refine mw_iast S hD hGa2_0 hSa2_0 (Or.inr (by omega)) hc2_0 (vp_in_nI (n := 0) (by decide) (by decide)) dX11_init_22 (fun Hs2_1 ls2_1 hc2_1 hzt2_1 hqt2_1 hSa2_1 hGa2_1 => ?_)
  have kk2_1 : ∀ q : Nat, q < H1.size → Hs2_1[q]? = H1[q]? := fun q hq => (hqt2_1 q (by omega)).trans (kk2_0 q hq)
  have hzs2_1 : Hs2_1.size = H1.size + 1 := by omega
  refine lv_dup hx hb dX11_init_23 rfl ?_
  refine lv_iconst (v := 1) hx hb dX11_init_24 (by decide) ?_
  refine lv_iconst (v := 1) hx hb dX11_init_25 (by decide) ?_
  refine mw_iast S hD hGa2_1 hSa2_1 (Or.inr (by omega)) hc2_1 (vp_in_nI (n := 1) (by decide) (by decide)) dX11_init_26 (fun Hs2_2 ls2_2 hc2_2 hzt2_2 hqt2_2 hSa2_2 hGa2_2 => ?_)
  have kk2_2 : ∀ q : Nat, q < H1.size → Hs2_2[q]? = H1[q]? := fun q hq => (hqt2_2 q (by omega)).trans (kk2_1 q hq)
  have hzs2_2 : Hs2_2.size = H1.size + 1 := by omega
  refine lv_dup hx hb dX11_init_27 rfl ?_
  refine lv_iconst (v := 2) hx hb dX11_init_28 (by decide) ?_
  refine lv_iconst (v := 2) hx hb dX11_init_29 (by decide) ?_
  refine mw_iast S hD hGa2_2 hSa2_2 (Or.inr (by omega)) hc2_2 (vp_in_nI (n := 2) (by decide) (by decide)) dX11_init_30 (fun Hs2_3 ls2_3 hc2_3 hzt2_3 hqt2_3 hSa2_3 hGa2_3 => ?_)
  have kk2_3 : ∀ q : Nat, q < H1.size → Hs2_3[q]? = H1[q]? := fun q hq => (hqt2_3 q (by omega)).trans (kk2_2 q hq)
  have hzs2_3 : Hs2_3.size = H1.size + 1 := by omega
  have hGb2 := hGa2_3
  have hSb2 := hSa2_3
  have hc2 := hc2_3
  have kb2 := kk2_3
  have hzb2 := hzs2_3
  have hob2 := va_at.kept ho1 (kb2 o (by omega))
  refine W.eq (g2 := F0 mZ 31 ls [.ref H1.size, .ref o]) rfl ?_
  refine mw_putF (ty := .array .int) S hD hGb2 hSb2 (Or.inl rfl) iX11 tyX11 tyX11_ok nmX11 hob2 5 rfl (by decide) (hts (.fieldLink RX11 16 "MinimaRoomModel" "kinds" "[I") (by decide +kernel)) rfl hnm rfl (by decide +kernel) rfl rfl (Nat.le_of_ble_eq_true rfl) dX11_init_31 (fun H2 locs2 ho2 hzc2 hqc2 hS2 hG2 => ?_)
  rw [hz1] at ho2 hc2
  have ho2 : va_at G.1 vwCl (o, .inr (12, [.int 0, .int 0, .int 0, .int 0, .ref (o + 1), .ref (o + 2), .null, .null, .null, .null, .null])) H2 := ho2
  have hz2 : H2.size = o + 3 := by omega
  have hc2 := va_at.kept hc2 (hqc2 (o + 2) (by omega))
  have hc1 := va_at.kept hc1 ((hqc2 (o + 1) (by omega)).trans (kb2 (o + 1) (by omega)))
  have hq2 : ∀ q : Nat, q < o → H2[q]? = H[q]? := fun q hq => (hqc2 q (by omega)).trans ((kb2 q (by omega)).trans (hq1 q hq))
  refine lv_aload_n hx hb dX11_init_34 rfl (lv_at hl 0 rfl) ?_
  refine lv_iconst (v := 3) hx hb dX11_init_35 (by decide) ?_
  refine mw_newa (N := 3) S hG2 (hts (.arrayClass .int) (by decide +kernel)) (by decide) (by decide) (by decide) ⟨Nat.le_of_ble_eq_true rfl, Nat.le_of_ble_eq_true rfl⟩ dX11_init_36 (fun Ha3 hc3_0 hza3 hxa3 => ?_)
  have hGa3_0 := gk_ext hxa3 hG2
  have hSa3_0 := vs_new hS2 hxa3
  have kk3_0 : ∀ q : Nat, q < H2.size → Ha3[q]? = H2[q]? := fun q hq => hxa3.2 q hq
  have hzs3_0 : Ha3.size = H2.size + 1 := hza3
  refine lv_dup hx hb dX11_init_38 rfl ?_
  refine lv_iconst (v := 0) hx hb dX11_init_39 (by decide) ?_
  refine lv_bipush (v := 27) hx hb dX11_init_40 (by decide) ?_
  refine mw_iast S hD hGa3_0 hSa3_0 (Or.inr (by omega)) hc3_0 (vp_in_nI (n := 0) (by decide) (by decide)) dX11_init_42 (fun Hs3_1 ls3_1 hc3_1 hzt3_1 hqt3_1 hSa3_1 hGa3_1 => ?_)
  have kk3_1 : ∀ q : Nat, q < H2.size → Hs3_1[q]? = H2[q]? := fun q hq => (hqt3_1 q (by omega)).trans (kk3_0 q hq)
  have hzs3_1 : Hs3_1.size = H2.size + 1 := by omega
  refine lv_dup hx hb dX11_init_43 rfl ?_
  refine lv_iconst (v := 1) hx hb dX11_init_44 (by decide) ?_
  refine lv_bipush (v := 27) hx hb dX11_init_45 (by decide) ?_
  refine mw_iast S hD hGa3_1 hSa3_1 (Or.inr (by omega)) hc3_1 (vp_in_nI (n := 1) (by decide) (by decide)) dX11_init_47 (fun Hs3_2 ls3_2 hc3_2 hzt3_2 hqt3_2 hSa3_2 hGa3_2 => ?_)
  have kk3_2 : ∀ q : Nat, q < H2.size → Hs3_2[q]? = H2[q]? := fun q hq => (hqt3_2 q (by omega)).trans (kk3_1 q hq)
  have hzs3_2 : Hs3_2.size = H2.size + 1 := by omega
  refine lv_dup hx hb dX11_init_48 rfl ?_
  refine lv_iconst (v := 2) hx hb dX11_init_49 (by decide) ?_
  refine lv_bipush (v := 27) hx hb dX11_init_50 (by decide) ?_
  refine mw_iast S hD hGa3_2 hSa3_2 (Or.inr (by omega)) hc3_2 (vp_in_nI (n := 2) (by decide) (by decide)) dX11_init_52 (fun Hs3_3 ls3_3 hc3_3 hzt3_3 hqt3_3 hSa3_3 hGa3_3 => ?_)
  have kk3_3 : ∀ q : Nat, q < H2.size → Hs3_3[q]? = H2[q]? := fun q hq => (hqt3_3 q (by omega)).trans (kk3_2 q hq)
  have hzs3_3 : Hs3_3.size = H2.size + 1 := by omega
  have hGb3 := hGa3_3
  have hSb3 := hSa3_3
  have hc3 := hc3_3
  have kb3 := kk3_3
  have hzb3 := hzs3_3
  have hob3 := va_at.kept ho2 (kb3 o (by omega))
  refine W.eq (g2 := F0 mZ 53 ls [.ref H2.size, .ref o]) rfl ?_
  refine mw_putF (ty := .array .int) S hD hGb3 hSb3 (Or.inl rfl) iX11 tyX11 tyX11_ok nmX11 hob3 6 rfl (by decide) (hts (.fieldLink RX11 20 "MinimaRoomModel" "checks" "[I") (by decide +kernel)) rfl hnm rfl (by decide +kernel) rfl rfl (Nat.le_of_ble_eq_true rfl) dX11_init_53 (fun H3 locs3 ho3 hzc3 hqc3 hS3 hG3 => ?_)
  rw [hz2] at ho3 hc3
  have ho3 : va_at G.1 vwCl (o, .inr (12, [.int 0, .int 0, .int 0, .int 0, .ref (o + 1), .ref (o + 2), .ref (o + 3), .null, .null, .null, .null])) H3 := ho3
  have hz3 : H3.size = o + 4 := by omega
  have hc3 := va_at.kept hc3 (hqc3 (o + 3) (by omega))
  have hc1 := va_at.kept hc1 ((hqc3 (o + 1) (by omega)).trans (kb3 (o + 1) (by omega)))
  have hc2 := va_at.kept hc2 ((hqc3 (o + 2) (by omega)).trans (kb3 (o + 2) (by omega)))
  have hq3 : ∀ q : Nat, q < o → H3[q]? = H[q]? := fun q hq => (hqc3 q (by omega)).trans ((kb3 q (by omega)).trans (hq2 q hq))
  refine lv_aload_n hx hb dX11_init_56 rfl (lv_at hl 0 rfl) ?_
  refine mw_new (fs := [.int 0, .null, .int 0]) (ci := 0) S hG3 iL tyJx4a65c tyJx4a65c_ok (hts (.classLink RX11 7 RJx4a65c) (by decide +kernel)) (hts (.instantiable RJx4a65c 3) (by decide +kernel)) (hts (.initialized RJx4a65c) (by decide +kernel)) rfl (fun j hj => match j, hj with | 0, _ => rfl | 1, _ => rfl | 2, _ => rfl | _ + 3, h => absurd h (by omega)) ⟨Nat.le_of_ble_eq_true rfl, Nat.le_of_ble_eq_true rfl⟩ dX11_init_57 (fun Ha4 ha4 hza4 hxa4 => ?_)
  have hGa4 := gk_ext hxa4 hG3
  have hSa4 := vs_new hS3 hxa4
  refine lv_dup hx hb dX11_init_60 rfl ?_
  refine mw_I (As := []) (rest := [.ref H3.size, .ref o]) S hD hGX hGa4 hSa4 (c_list l G Ha4 H3.size (by omega) (by omega) ha4) (fun q h => h.elim (fun e => Or.inr (by omega)) (fun h => Or.inr (by omega))) gX11_init_Jx4a65c_init_da8c8 rfl ⟨rfl, rfl⟩ (hts (.initialized RJx4a65c) (by decide +kernel)) (hts (.methodLink RX11 9 yJx4a65c_init_da8c8) (by decide +kernel)) (hts (.instanceMethod yJx4a65c_init_da8c8) (by decide +kernel)) rfl nmJx4a65c_init_da8c8 ⟨Nat.le_of_ble_eq_true rfl, Nat.le_of_ble_eq_true rfl⟩ rfl hl.1 rfl (Nat.le_of_ble_eq_true rfl) ⟨Nat.le_of_ble_eq_true rfl, Nat.le_of_ble_eq_true rfl⟩ dX11_init_61 (fun Hb4 lb4 v4 hSb4 hsb4 hPb4 hGb4 => ?_)
  obtain ⟨hv4, hc4, hzb4, hqb4⟩ := hPb4
  subst hv4
  have kb4 : ∀ q : Nat, q < H3.size → Hb4[q]? = H3[q]? := fun q hq => (hqb4 q (by omega)).trans (hxa4.2 q hq)
  have hob4 := va_at.kept ho3 (kb4 o (by omega))
  refine W.eq (g2 := F0 mZ 64 ls [.ref H3.size, .ref o]) rfl ?_
  refine mw_putF (ty := .object "java/util/ArrayList") S hD hGb4 hSb4 (Or.inl rfl) iX11 tyX11 tyX11_ok nmX11 hob4 7 rfl (by decide) (hts (.fieldLink RX11 23 "MinimaRoomModel" "procedures" "Ljava/util/ArrayList;") (by decide +kernel)) rfl hnm rfl (by decide +kernel) rfl rfl (Nat.le_of_ble_eq_true rfl) dX11_init_64 (fun H4 locs4 ho4 hzc4 hqc4 hS4 hG4 => ?_)
  rw [hz3] at ho4 hc4
  have ho4 : va_at G.1 vwCl (o, .inr (12, [.int 0, .int 0, .int 0, .int 0, .ref (o + 1), .ref (o + 2), .ref (o + 3), .ref (o + 4), .null, .null, .null])) H4 := ho4
  have hz4 : H4.size = o + 5 := by omega
  have hc4 := va_at.kept hc4 (hqc4 (o + 4) (by omega))
  have hc1 := va_at.kept hc1 ((hqc4 (o + 1) (by omega)).trans (kb4 (o + 1) (by omega)))
  have hc2 := va_at.kept hc2 ((hqc4 (o + 2) (by omega)).trans (kb4 (o + 2) (by omega)))
  have hc3 := va_at.kept hc3 ((hqc4 (o + 3) (by omega)).trans (kb4 (o + 3) (by omega)))
  have hq4 : ∀ q : Nat, q < o → H4[q]? = H[q]? := fun q hq => (hqc4 q (by omega)).trans ((kb4 q (by omega)).trans (hq3 q hq))
  refine lv_aload_n hx hb dX11_init_67 rfl (lv_at hl 0 rfl) ?_
  refine mw_new (fs := [.int 0, .null, .int 0]) (ci := 0) S hG4 iL tyJx4a65c tyJx4a65c_ok (hts (.classLink RX11 7 RJx4a65c) (by decide +kernel)) (hts (.instantiable RJx4a65c 3) (by decide +kernel)) (hts (.initialized RJx4a65c) (by decide +kernel)) rfl (fun j hj => match j, hj with | 0, _ => rfl | 1, _ => rfl | 2, _ => rfl | _ + 3, h => absurd h (by omega)) ⟨Nat.le_of_ble_eq_true rfl, Nat.le_of_ble_eq_true rfl⟩ dX11_init_68 (fun Ha5 ha5 hza5 hxa5 => ?_)
  have hGa5 := gk_ext hxa5 hG4
  have hSa5 := vs_new hS4 hxa5
  refine lv_dup hx hb dX11_init_71 rfl ?_
  refine mw_I (As := []) (rest := [.ref H4.size, .ref o]) S hD hGX hGa5 hSa5 (c_list l G Ha5 H4.size (by omega) (by omega) ha5) (fun q h => h.elim (fun e => Or.inr (by omega)) (fun h => Or.inr (by omega))) gX11_init_Jx4a65c_init_da8c8 rfl ⟨rfl, rfl⟩ (hts (.initialized RJx4a65c) (by decide +kernel)) (hts (.methodLink RX11 9 yJx4a65c_init_da8c8) (by decide +kernel)) (hts (.instanceMethod yJx4a65c_init_da8c8) (by decide +kernel)) rfl nmJx4a65c_init_da8c8 ⟨Nat.le_of_ble_eq_true rfl, Nat.le_of_ble_eq_true rfl⟩ rfl hl.1 rfl (Nat.le_of_ble_eq_true rfl) ⟨Nat.le_of_ble_eq_true rfl, Nat.le_of_ble_eq_true rfl⟩ dX11_init_72 (fun Hb5 lb5 v5 hSb5 hsb5 hPb5 hGb5 => ?_)
  obtain ⟨hv5, hc5, hzb5, hqb5⟩ := hPb5
  subst hv5
  have kb5 : ∀ q : Nat, q < H4.size → Hb5[q]? = H4[q]? := fun q hq => (hqb5 q (by omega)).trans (hxa5.2 q hq)
  have hob5 := va_at.kept ho4 (kb5 o (by omega))
  refine W.eq (g2 := F0 mZ 75 ls [.ref H4.size, .ref o]) rfl ?_
  refine mw_putF (ty := .object "java/util/ArrayList") S hD hGb5 hSb5 (Or.inl rfl) iX11 tyX11 tyX11_ok nmX11 hob5 8 rfl (by decide) (hts (.fieldLink RX11 26 "MinimaRoomModel" "notices" "Ljava/util/ArrayList;") (by decide +kernel)) rfl hnm rfl (by decide +kernel) rfl rfl (Nat.le_of_ble_eq_true rfl) dX11_init_75 (fun H5 locs5 ho5 hzc5 hqc5 hS5 hG5 => ?_)
  rw [hz4] at ho5 hc5
  have ho5 : va_at G.1 vwCl (o, .inr (12, [.int 0, .int 0, .int 0, .int 0, .ref (o + 1), .ref (o + 2), .ref (o + 3), .ref (o + 4), .ref (o + 5), .null, .null])) H5 := ho5
  have hz5 : H5.size = o + 6 := by omega
  have hc5 := va_at.kept hc5 (hqc5 (o + 5) (by omega))
  have hc1 := va_at.kept hc1 ((hqc5 (o + 1) (by omega)).trans (kb5 (o + 1) (by omega)))
  have hc2 := va_at.kept hc2 ((hqc5 (o + 2) (by omega)).trans (kb5 (o + 2) (by omega)))
  have hc3 := va_at.kept hc3 ((hqc5 (o + 3) (by omega)).trans (kb5 (o + 3) (by omega)))
  have hc4 := va_at.kept hc4 ((hqc5 (o + 4) (by omega)).trans (kb5 (o + 4) (by omega)))
  have hq5 : ∀ q : Nat, q < o → H5[q]? = H[q]? := fun q hq => (hqc5 q (by omega)).trans ((kb5 q (by omega)).trans (hq4 q hq))
  refine lv_aload_n hx hb dX11_init_78 rfl (lv_at hl 0 rfl) ?_
  refine lv_iconst (v := 4) hx hb dX11_init_79 (by decide) ?_
  refine mw_newa (N := 4) S hG5 (hts (.arrayClass .int) (by decide +kernel)) (by decide) (by decide) (by decide) ⟨Nat.le_of_ble_eq_true rfl, Nat.le_of_ble_eq_true rfl⟩ dX11_init_80 (fun Ha6 hc6_0 hza6 hxa6 => ?_)
  have hGa6_0 := gk_ext hxa6 hG5
  have hSa6_0 := vs_new hS5 hxa6
  have kk6_0 : ∀ q : Nat, q < H5.size → Ha6[q]? = H5[q]? := fun q hq => hxa6.2 q hq
  have hzs6_0 : Ha6.size = H5.size + 1 := hza6
  refine lv_dup hx hb dX11_init_82 rfl ?_
  refine lv_iconst (v := 0) hx hb dX11_init_83 (by decide) ?_
  refine lv_iconst (v := (-1)) hx hb dX11_init_84 (by decide) ?_
  refine mw_iast S hD hGa6_0 hSa6_0 (Or.inr (by omega)) hc6_0 (vp_in_nI (n := 0) (by decide) (by decide)) dX11_init_85 (fun Hs6_1 ls6_1 hc6_1 hzt6_1 hqt6_1 hSa6_1 hGa6_1 => ?_)
  have kk6_1 : ∀ q : Nat, q < H5.size → Hs6_1[q]? = H5[q]? := fun q hq => (hqt6_1 q (by omega)).trans (kk6_0 q hq)
  have hzs6_1 : Hs6_1.size = H5.size + 1 := by omega
  refine lv_dup hx hb dX11_init_86 rfl ?_
  refine lv_iconst (v := 1) hx hb dX11_init_87 (by decide) ?_
  refine lv_iconst (v := (-1)) hx hb dX11_init_88 (by decide) ?_
  refine mw_iast S hD hGa6_1 hSa6_1 (Or.inr (by omega)) hc6_1 (vp_in_nI (n := 1) (by decide) (by decide)) dX11_init_89 (fun Hs6_2 ls6_2 hc6_2 hzt6_2 hqt6_2 hSa6_2 hGa6_2 => ?_)
  have kk6_2 : ∀ q : Nat, q < H5.size → Hs6_2[q]? = H5[q]? := fun q hq => (hqt6_2 q (by omega)).trans (kk6_1 q hq)
  have hzs6_2 : Hs6_2.size = H5.size + 1 := by omega
  refine lv_dup hx hb dX11_init_90 rfl ?_
  refine lv_iconst (v := 2) hx hb dX11_init_91 (by decide) ?_
  refine lv_iconst (v := (-1)) hx hb dX11_init_92 (by decide) ?_
  refine mw_iast S hD hGa6_2 hSa6_2 (Or.inr (by omega)) hc6_2 (vp_in_nI (n := 2) (by decide) (by decide)) dX11_init_93 (fun Hs6_3 ls6_3 hc6_3 hzt6_3 hqt6_3 hSa6_3 hGa6_3 => ?_)
  have kk6_3 : ∀ q : Nat, q < H5.size → Hs6_3[q]? = H5[q]? := fun q hq => (hqt6_3 q (by omega)).trans (kk6_2 q hq)
  have hzs6_3 : Hs6_3.size = H5.size + 1 := by omega
  refine lv_dup hx hb dX11_init_94 rfl ?_
  refine lv_iconst (v := 3) hx hb dX11_init_95 (by decide) ?_
  refine lv_iconst (v := (-1)) hx hb dX11_init_96 (by decide) ?_
  refine mw_iast S hD hGa6_3 hSa6_3 (Or.inr (by omega)) hc6_3 (vp_in_nI (n := 3) (by decide) (by decide)) dX11_init_97 (fun Hs6_4 ls6_4 hc6_4 hzt6_4 hqt6_4 hSa6_4 hGa6_4 => ?_)
  have kk6_4 : ∀ q : Nat, q < H5.size → Hs6_4[q]? = H5[q]? := fun q hq => (hqt6_4 q (by omega)).trans (kk6_3 q hq)
  have hzs6_4 : Hs6_4.size = H5.size + 1 := by omega
  have hGb6 := hGa6_4
  have hSb6 := hSa6_4
  have hc6 := hc6_4
  have kb6 := kk6_4
  have hzb6 := hzs6_4
  have hob6 := va_at.kept ho5 (kb6 o (by omega))
  refine W.eq (g2 := F0 mZ 98 ls [.ref H5.size, .ref o]) rfl ?_
  refine mw_putF (ty := .array .int) S hD hGb6 hSb6 (Or.inl rfl) iX11 tyX11 tyX11_ok nmX11 hob6 9 rfl (by decide) (hts (.fieldLink RX11 29 "MinimaRoomModel" "loaded" "[I") (by decide +kernel)) rfl hnm rfl (by decide +kernel) rfl rfl (Nat.le_of_ble_eq_true rfl) dX11_init_98 (fun H6 locs6 ho6 hzc6 hqc6 hS6 hG6 => ?_)
  rw [hz5] at ho6 hc6
  have ho6 : va_at G.1 vwCl (o, .inr (12, [.int 0, .int 0, .int 0, .int 0, .ref (o + 1), .ref (o + 2), .ref (o + 3), .ref (o + 4), .ref (o + 5), .ref (o + 6), .null])) H6 := ho6
  have hz6 : H6.size = o + 7 := by omega
  have hc6 := va_at.kept hc6 (hqc6 (o + 6) (by omega))
  have hc1 := va_at.kept hc1 ((hqc6 (o + 1) (by omega)).trans (kb6 (o + 1) (by omega)))
  have hc2 := va_at.kept hc2 ((hqc6 (o + 2) (by omega)).trans (kb6 (o + 2) (by omega)))
  have hc3 := va_at.kept hc3 ((hqc6 (o + 3) (by omega)).trans (kb6 (o + 3) (by omega)))
  have hc4 := va_at.kept hc4 ((hqc6 (o + 4) (by omega)).trans (kb6 (o + 4) (by omega)))
  have hc5 := va_at.kept hc5 ((hqc6 (o + 5) (by omega)).trans (kb6 (o + 5) (by omega)))
  have hq6 : ∀ q : Nat, q < o → H6[q]? = H[q]? := fun q hq => (hqc6 q (by omega)).trans ((kb6 q (by omega)).trans (hq5 q hq))
  refine lv_aload_n hx hb dX11_init_101 rfl (lv_at hl 0 rfl) ?_
  refine lv_iconst (v := 4) hx hb dX11_init_102 (by decide) ?_
  refine mw_newa (N := 4) S hG6 (hts (.arrayClass .int) (by decide +kernel)) (by decide) (by decide) (by decide) ⟨Nat.le_of_ble_eq_true rfl, Nat.le_of_ble_eq_true rfl⟩ dX11_init_103 (fun Ha7 hc7_0 hza7 hxa7 => ?_)
  have hGa7_0 := gk_ext hxa7 hG6
  have hSa7_0 := vs_new hS6 hxa7
  have kk7_0 : ∀ q : Nat, q < H6.size → Ha7[q]? = H6[q]? := fun q hq => hxa7.2 q hq
  have hzs7_0 : Ha7.size = H6.size + 1 := hza7
  have hGb7 := hGa7_0
  have hSb7 := hSa7_0
  have hc7 := hc7_0
  have kb7 := kk7_0
  have hzb7 := hzs7_0
  have hob7 := va_at.kept ho6 (kb7 o (by omega))
  refine W.eq (g2 := F0 mZ 105 ls [.ref H6.size, .ref o]) rfl ?_
  refine mw_putF (ty := .array .int) S hD hGb7 hSb7 (Or.inl rfl) iX11 tyX11 tyX11_ok nmX11 hob7 10 rfl (by decide) (hts (.fieldLink RX11 32 "MinimaRoomModel" "read" "[I") (by decide +kernel)) rfl hnm rfl (by decide +kernel) rfl rfl (Nat.le_of_ble_eq_true rfl) dX11_init_105 (fun H7 locs7 ho7 hzc7 hqc7 hS7 hG7 => ?_)
  rw [hz6] at ho7 hc7
  have ho7 : va_at G.1 vwCl (o, .inr (12, [.int 0, .int 0, .int 0, .int 0, .ref (o + 1), .ref (o + 2), .ref (o + 3), .ref (o + 4), .ref (o + 5), .ref (o + 6), .ref (o + 7)])) H7 := ho7
  have hz7 : H7.size = o + 8 := by omega
  have hc7 := va_at.kept hc7 (hqc7 (o + 7) (by omega))
  have hc1 := va_at.kept hc1 ((hqc7 (o + 1) (by omega)).trans (kb7 (o + 1) (by omega)))
  have hc2 := va_at.kept hc2 ((hqc7 (o + 2) (by omega)).trans (kb7 (o + 2) (by omega)))
  have hc3 := va_at.kept hc3 ((hqc7 (o + 3) (by omega)).trans (kb7 (o + 3) (by omega)))
  have hc4 := va_at.kept hc4 ((hqc7 (o + 4) (by omega)).trans (kb7 (o + 4) (by omega)))
  have hc5 := va_at.kept hc5 ((hqc7 (o + 5) (by omega)).trans (kb7 (o + 5) (by omega)))
  have hc6 := va_at.kept hc6 ((hqc7 (o + 6) (by omega)).trans (kb7 (o + 6) (by omega)))
  have hq7 : ∀ q : Nat, q < o → H7[q]? = H[q]? := fun q hq => (hqc7 q (by omega)).trans ((kb7 q (by omega)).trans (hq6 q hq))
  refine mw_vret S hr hlk hS7 ⟨Nat.le_of_ble_eq_true rfl, Nat.le_of_ble_eq_true rfl⟩ dX11_init_108 ⟨rfl, ⟨B0 o, fun _ => 0, g0, ⟨mi_0, fun k hk => ?_⟩, ⟨fun k hk => ?_, fun j k hj hk e => ?_⟩, fun k => Or.inl rfl, rfl⟩, by omega, hq7⟩
  · have h8 := md_0 hk
    have h9 : k = 0 ∨ k = 1 ∨ k = 2 ∨ k = 3 ∨ k = 4 ∨ k = 5 ∨ k = 6 ∨ k = 7 := by omega
    rcases h9 with rfl | rfl | rfl | rfl | rfl | rfl | rfl | rfl
    · exact ho7
    · exact va_cg (r2 := f0 15) hc2 (fun j hj => by have h9 : j = 0 ∨ j = 1 ∨ j = 2 := by omega
                                                    rcases h9 with rfl | rfl | rfl <;> rfl)
    · exact va_cg (r2 := f0 16) hc3 (fun j hj => by have h9 : j = 0 ∨ j = 1 ∨ j = 2 := by omega
                                                    rcases h9 with rfl | rfl | rfl <;> rfl)
    · exact va_cg (r2 := f0 28) hc6 (fun j hj => by have h9 : j = 0 ∨ j = 1 ∨ j = 2 ∨ j = 3 := by omega
                                                    rcases h9 with rfl | rfl | rfl | rfl <;> rfl)
    · exact va_cg (r2 := f0 29) hc7 (fun j hj => rfl)
    · exact hc1
    · exact hc4
    · exact hc5
  · have h8 := md_0 hk
    have h9 : bo k < 8 := by
      have : ∀ k, k < 8 → bo k < 8 := by decide +kernel
      exact this k h8
    exact hDn _ (by unfold B0; omega) (by unfold B0; omega)
  · refine bo_inj j (md_0 hj) k (md_0 hk) ?_
    unfold B0 at e
    omega
