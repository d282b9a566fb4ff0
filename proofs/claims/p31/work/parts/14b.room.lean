/-! the constructor of the class -/
/-- where a new room's cells lie, from the room on -/
def ao (k : Nat) : Nat := if k = 0 then 0 else if k = 1 then 1 else if k = 2 then 12 else if k = 3 then 17 else if k = 4 then 22 else if k = 5 then 29 else if k = 6 then 42 else
  (if k < 30 then (if k < 15 then 2 + 2 * (k - 10) else if k < 17 then 13 + 2 * (k - 15) else if k < 19 then 18 + 2 * (k - 17) else if k < 22 then 23 + 2 * (k - 19) else if k < 28 then 30 + 2 * (k - 22) else 43 + 2 * (k - 28))
   else (if k < 35 then 3 + 2 * (k - 30) else if k < 37 then 14 + 2 * (k - 35) else if k < 39 then 19 + 2 * (k - 37) else if k < 42 then 24 + 2 * (k - 39) else if k < 48 then 31 + 2 * (k - 42) else 44 + 2 * (k - 48)))
def A0 (o k : Nat) : Nat := o + ao k
/-- a new room's numbers -/
def f0 : Nat → Nat → Int32 := fun k j => if k = 15 then nI j else if k = 16 then 27 else if k = 27 then -1 else if k = 28 then -1 else 0
def g0 : Nat → Nat := fun _ => 0
theorem ao_inj : ∀ j, j < 50 → ∀ k, k < 50 → (j < 7 ∨ 10 ≤ j) → (k < 7 ∨ 10 ≤ k) → ao j = ao k → j = k := by decide +kernel
theorem ra_0 {G : GT} {o : Nat} (h : G.2.2.1 ≤ o) : RA G (A0 o) := by
  refine ⟨fun k _ => by unfold A0; omega, fun j k hj hk e => ao_inj j (by omega) k (by omega) (by omega) (by omega) ?_⟩
  unfold A0 at e
  omega
theorem li_0 : LI f0 g0 := by
  refine ⟨⟨Nat.zero_le _, Nat.zero_le _, Nat.zero_le _, Nat.zero_le _, Nat.zero_le _, Nat.zero_le _⟩, fun j hj => absurd hj (Nat.not_lt_zero j), fun i hi => absurd hi (Nat.not_lt_zero i), fun a ha => ⟨a, ha, rfl⟩, fun j hj => absurd hj (Nat.not_lt_zero j), fun c hc => ?_, fun j hj => absurd hj (Nat.not_lt_zero j), fun i hi => rfl, fun i hi => absurd hi (Nat.not_lt_zero i)⟩
  have e : f0 29 c = 0 := rfl
  rw [e]
  exact ⟨by decide, by decide⟩
theorem nmX7_init : nmV yX7_init RX7 0 := by decide +kernel
set_option maxHeartbeats 4000000 in
set_option maxRecDepth 100000 in
theorem c_X7_init (l : Launch) (G : GT) (H : Heap) (o : Nat) (hz : G.2.2.1 ≤ H.size) (hzo : G.2.2.1 ≤ o) (hs : H.size = o + 1) (ho0 : va_at G.1 vwCl (o, .inr (8, [.null, .null, .null, .null, .null, .null, .int 0, .int 0])) H) : MwV l G (DO o H.size) H yX7_init wsX7_init { frames := 3, cells := 46, slots := 500, locals := 56 } [.ref o] 46 500 (fun w t => w = none ∧ RP G (A0 o) f0 g0 t ∧ t.size = o + 47 ∧ ∀ q : Nat, q < o → t[q]? = H[q]?) := by
  refine mw_ofI (cc := cX7_init) (maxL := 1) (ret := none) (by decide) rfl (Nat.le_of_ble_eq_true rfl) ?_
  intro pZ eZ sZ mZ bZ meZ cZ ls S hr hlk hnm hl hHs hG0 hGX
  have S : CallFix pZ mZ cZ cX7_init 1 sZ _ wsX7_init RX7 := S
  have hx := S.1
  have hb := S.2.1
  have hown := S.2.2.2.1
  have hts := S.2.2.2.2
  have hl : lv_has ls 1 [(0, .ref o)] := hl
  have hD : DP G (DO o H.size) H.size := dp_o hzo hz
  have hS0 : va_S (DO o H.size) H H [] := va_S.rf
  have iX7 : ∀ w ∈ u_ws RX7 TX7 8, w ∈ wsX7_init := by decide +kernel
  have iX4 : ∀ w ∈ u_ws RX4 TX4 6, w ∈ wsX7_init := by decide +kernel
  have iX0 : ∀ w ∈ u_ws RX0 TX0 2, w ∈ wsX7_init := by decide +kernel
  have iX5 : ∀ w ∈ u_ws RX5 TX5 3, w ∈ wsX7_init := by decide +kernel
  have iX1 : ∀ w ∈ u_ws RX1 TX1 4, w ∈ wsX7_init := by decide +kernel
  have iX3 : ∀ w ∈ u_ws RX3 TX3 7, w ∈ wsX7_init := by decide +kernel
  have iX2 : ∀ w ∈ u_ws RX2 TX2 2, w ∈ wsX7_init := by decide +kernel
  refine lv_aload_n hx hb dX7_init_0 rfl (lv_at hl 0 rfl) ?_
  refine W.objInit hx hb hown (hts (.methodLink RX7 1 objectInit) (by decide +kernel)) (hts (.instanceMethod objectInit) (by decide +kernel)) (hts (.code objectInit ⟨#[0xb1]⟩ 1 none) (by decide +kernel)) rfl (hl.1.trans S.2.2.1.symm) rfl dX7_init_1 (Nat.le_of_ble_eq_true rfl) (Nat.le_of_ble_eq_true rfl) ?_
  refine W.eq (g2 := F0 mZ 4 ls []) rfl ?_
  have hz0 : H.size = o + 1 := hs
  have hq0 : ∀ q : Nat, q < o → H[q]? = H[q]? := fun _ _ => rfl
  refine lv_aload_n hx hb dX7_init_4 rfl (lv_at hl 0 rfl) ?_
  refine mw_new (fs := [.null, .null, .null, .null, .null, .int 0]) (ci := 5) S hG0 iX4 tyX4 tyX4_ok (hts (.classLink RX7 7 RX4) (by decide +kernel)) (hts (.instantiable RX4 6) (by decide +kernel)) (hts (.initialized RX4) (by decide +kernel)) rfl (fun j hj => match j, hj with | 0, _ => rfl | 1, _ => rfl | 2, _ => rfl | 3, _ => rfl | 4, _ => rfl | 5, _ => rfl | _ + 6, h => absurd h (by omega)) ⟨Nat.le_of_ble_eq_true rfl, Nat.le_of_ble_eq_true rfl⟩ dX7_init_5 (fun Ha1 ha1 hza1 hxa1 => ?_)
  have hGa1 := gk_ext hxa1 hG0
  have hSa1 := vs_new hS0 hxa1
  refine lv_dup hx hb dX7_init_8 rfl ?_
  refine mw_IN (As := []) (rest := [.ref H.size, .ref o]) S hD hGX hGa1 hSa1 (c_X4_init l G Ha1 H.size (by omega) (by omega) hza1 ha1) (fun q h => h.elim (fun e => Or.inr (by omega)) (fun h => Or.inr (by omega))) gX7_init_X4_init_n9 rfl ⟨rfl, rfl⟩ (hts (.initialized RX4) (by decide +kernel)) nestM_9 (hts (.instanceMethod yX4_init) (by decide +kernel)) rfl nmX4_init ⟨Nat.le_of_ble_eq_true rfl, Nat.le_of_ble_eq_true rfl⟩ rfl hl.1 rfl (Nat.le_of_ble_eq_true rfl) ⟨Nat.le_of_ble_eq_true rfl, Nat.le_of_ble_eq_true rfl⟩ dX7_init_9 (fun Hb1 lb1 v1 hSb1 hsb1 hPb1 hGb1 => ?_)
  obtain ⟨hv1, hhX4, hwX4_0, hwX4_1, hwX4_2, hwX4_3, hwX4_4, hzb1, hqb1⟩ := hPb1
  subst hv1
  have kb1 : ∀ q : Nat, q < H.size → Hb1[q]? = H[q]? := fun q hq => (hqb1 q hq).trans (hxa1.2 q hq)
  have hob1 := va_at.kept ho0 (kb1 o (by omega))
  refine W.eq (g2 := F0 mZ 12 ls [.ref H.size, .ref o]) rfl ?_
  refine mw_putF (ty := .object "MinimaRoom$Obstacles") S hD hGb1 hSb1 (Or.inl rfl) iX7 tyX7 tyX7_ok nmX7 hob1 0 rfl (by decide) (hts (.fieldLink RX7 10 "MinimaRoom" "obstacles" "LMinimaRoom$Obstacles;") (by decide +kernel)) rfl hnm rfl (by decide +kernel) rfl rfl (Nat.le_of_ble_eq_true rfl) dX7_init_12 (fun H1 locs1 ho1 hzc1 hqc1 hS1 hG1 => ?_)
  rw [hz0] at ho1 hhX4 hwX4_0 hwX4_1 hwX4_2 hwX4_3 hwX4_4
  have ho1 : va_at G.1 vwCl (o, .inr (8, [.ref (o + 1), .null, .null, .null, .null, .null, .int 0, .int 0])) H1 := ho1
  have hz1 : H1.size = o + 12 := by omega
  have hhX4 := va_at.kept hhX4 (hqc1 (o + 1) (by omega))
  have hwX4_0 : rw1 G H1 (o + 2) 12 _ := rw1.kept hwX4_0 (hqc1 (o + 1 + 1) (by omega)) (hqc1 (o + 1 + 1 + 1) (by omega))
  have hwX4_1 : rw1 G H1 (o + 4) 12 _ := rw1.kept hwX4_1 (hqc1 (o + 1 + 3) (by omega)) (hqc1 (o + 1 + 3 + 1) (by omega))
  have hwX4_2 : rw1 G H1 (o + 6) 12 _ := rw1.kept hwX4_2 (hqc1 (o + 1 + 5) (by omega)) (hqc1 (o + 1 + 5 + 1) (by omega))
  have hwX4_3 : rw1 G H1 (o + 8) 12 _ := rw1.kept hwX4_3 (hqc1 (o + 1 + 7) (by omega)) (hqc1 (o + 1 + 7 + 1) (by omega))
  have hwX4_4 : rw1 G H1 (o + 10) 12 _ := rw1.kept hwX4_4 (hqc1 (o + 1 + 9) (by omega)) (hqc1 (o + 1 + 9 + 1) (by omega))
  have hq1 : ∀ q : Nat, q < o → H1[q]? = H[q]? := fun q hq => (hqc1 q (by omega)).trans ((kb1 q (by omega)).trans (hq0 q hq))
  refine lv_aload_n hx hb dX7_init_15 rfl (lv_at hl 0 rfl) ?_
  refine mw_new (fs := [.null, .null]) (ci := 1) S hG1 iX0 tyX0 tyX0_ok (hts (.classLink RX7 16 RX0) (by decide +kernel)) (hts (.instantiable RX0 2) (by decide +kernel)) (hts (.initialized RX0) (by decide +kernel)) rfl (fun j hj => match j, hj with | 0, _ => rfl | 1, _ => rfl | _ + 2, h => absurd h (by omega)) ⟨Nat.le_of_ble_eq_true rfl, Nat.le_of_ble_eq_true rfl⟩ dX7_init_16 (fun Ha2 ha2 hza2 hxa2 => ?_)
  have hGa2 := gk_ext hxa2 hG1
  have hSa2 := vs_new hS1 hxa2
  refine lv_dup hx hb dX7_init_19 rfl ?_
  refine mw_I (As := []) (rest := [.ref H1.size, .ref o]) S hD hGX hGa2 hSa2 (c_X0_init l G Ha2 H1.size (by omega) (by omega) hza2 ha2) (fun q h => h.elim (fun e => Or.inr (by omega)) (fun h => Or.inr (by omega))) gX7_init_X0_init rfl ⟨rfl, rfl⟩ (hts (.initialized RX0) (by decide +kernel)) (hts (.methodLink RX7 18 yX0_init) (by decide +kernel)) (hts (.instanceMethod yX0_init) (by decide +kernel)) rfl nmX0_init ⟨Nat.le_of_ble_eq_true rfl, Nat.le_of_ble_eq_true rfl⟩ rfl hl.1 rfl (Nat.le_of_ble_eq_true rfl) ⟨Nat.le_of_ble_eq_true rfl, Nat.le_of_ble_eq_true rfl⟩ dX7_init_20 (fun Hb2 lb2 v2 hSb2 hsb2 hPb2 hGb2 => ?_)
  obtain ⟨hv2, hhX0, hwX0_0, hwX0_1, hzb2, hqb2⟩ := hPb2
  subst hv2
  have kb2 : ∀ q : Nat, q < H1.size → Hb2[q]? = H1[q]? := fun q hq => (hqb2 q hq).trans (hxa2.2 q hq)
  have hob2 := va_at.kept ho1 (kb2 o (by omega))
  refine W.eq (g2 := F0 mZ 23 ls [.ref H1.size, .ref o]) rfl ?_
  refine mw_putF (ty := .object "MinimaRoom$Aids") S hD hGb2 hSb2 (Or.inl rfl) iX7 tyX7 tyX7_ok nmX7 hob2 1 rfl (by decide) (hts (.fieldLink RX7 19 "MinimaRoom" "aids" "LMinimaRoom$Aids;") (by decide +kernel)) rfl hnm rfl (by decide +kernel) rfl rfl (Nat.le_of_ble_eq_true rfl) dX7_init_23 (fun H2 locs2 ho2 hzc2 hqc2 hS2 hG2 => ?_)
  rw [hz1] at ho2 hhX0 hwX0_0 hwX0_1
  have ho2 : va_at G.1 vwCl (o, .inr (8, [.ref (o + 1), .ref (o + 12), .null, .null, .null, .null, .int 0, .int 0])) H2 := ho2
  have hz2 : H2.size = o + 17 := by omega
  have hhX0 := va_at.kept hhX0 (hqc2 (o + 12) (by omega))
  have hwX0_0 : rw1 G H2 (o + 13) 3 _ := rw1.kept hwX0_0 (hqc2 (o + 12 + 1) (by omega)) (hqc2 (o + 12 + 1 + 1) (by omega))
  have hwX0_1 : rw1 G H2 (o + 15) 3 _ := rw1.kept hwX0_1 (hqc2 (o + 12 + 3) (by omega)) (hqc2 (o + 12 + 3 + 1) (by omega))
  have hhX4 := va_at.kept hhX4 ((hqc2 (o + 1) (by omega)).trans (kb2 (o + 1) (by omega)))
  have hwX4_0 := rw1.kept hwX4_0 ((hqc2 (o + 2) (by omega)).trans (kb2 (o + 2) (by omega))) ((hqc2 (o + 2 + 1) (by omega)).trans (kb2 (o + 2 + 1) (by omega)))
  have hwX4_1 := rw1.kept hwX4_1 ((hqc2 (o + 4) (by omega)).trans (kb2 (o + 4) (by omega))) ((hqc2 (o + 4 + 1) (by omega)).trans (kb2 (o + 4 + 1) (by omega)))
  have hwX4_2 := rw1.kept hwX4_2 ((hqc2 (o + 6) (by omega)).trans (kb2 (o + 6) (by omega))) ((hqc2 (o + 6 + 1) (by omega)).trans (kb2 (o + 6 + 1) (by omega)))
  have hwX4_3 := rw1.kept hwX4_3 ((hqc2 (o + 8) (by omega)).trans (kb2 (o + 8) (by omega))) ((hqc2 (o + 8 + 1) (by omega)).trans (kb2 (o + 8 + 1) (by omega)))
  have hwX4_4 := rw1.kept hwX4_4 ((hqc2 (o + 10) (by omega)).trans (kb2 (o + 10) (by omega))) ((hqc2 (o + 10 + 1) (by omega)).trans (kb2 (o + 10 + 1) (by omega)))
  have hq2 : ∀ q : Nat, q < o → H2[q]? = H[q]? := fun q hq => (hqc2 q (by omega)).trans ((kb2 q (by omega)).trans (hq1 q hq))
  refine lv_aload_n hx hb dX7_init_26 rfl (lv_at hl 0 rfl) ?_
  refine mw_new (fs := [.null, .null, .int 0]) (ci := 6) S hG2 iX5 tyX5 tyX5_ok (hts (.classLink RX7 23 RX5) (by decide +kernel)) (hts (.instantiable RX5 3) (by decide +kernel)) (hts (.initialized RX5) (by decide +kernel)) rfl (fun j hj => match j, hj with | 0, _ => rfl | 1, _ => rfl | 2, _ => rfl | _ + 3, h => absurd h (by omega)) ⟨Nat.le_of_ble_eq_true rfl, Nat.le_of_ble_eq_true rfl⟩ dX7_init_27 (fun Ha3 ha3 hza3 hxa3 => ?_)
  have hGa3 := gk_ext hxa3 hG2
  have hSa3 := vs_new hS2 hxa3
  refine lv_dup hx hb dX7_init_30 rfl ?_
  refine mw_IN (As := []) (rest := [.ref H2.size, .ref o]) S hD hGX hGa3 hSa3 (c_X5_init l G Ha3 H2.size (by omega) (by omega) hza3 ha3) (fun q h => h.elim (fun e => Or.inr (by omega)) (fun h => Or.inr (by omega))) gX7_init_X5_init_n25 rfl ⟨rfl, rfl⟩ (hts (.initialized RX5) (by decide +kernel)) nestM_25 (hts (.instanceMethod yX5_init) (by decide +kernel)) rfl nmX5_init ⟨Nat.le_of_ble_eq_true rfl, Nat.le_of_ble_eq_true rfl⟩ rfl hl.1 rfl (Nat.le_of_ble_eq_true rfl) ⟨Nat.le_of_ble_eq_true rfl, Nat.le_of_ble_eq_true rfl⟩ dX7_init_31 (fun Hb3 lb3 v3 hSb3 hsb3 hPb3 hGb3 => ?_)
  obtain ⟨hv3, hhX5, hwX5_0, hwX5_1, hzb3, hqb3⟩ := hPb3
  subst hv3
  have kb3 : ∀ q : Nat, q < H2.size → Hb3[q]? = H2[q]? := fun q hq => (hqb3 q hq).trans (hxa3.2 q hq)
  have hob3 := va_at.kept ho2 (kb3 o (by omega))
  refine W.eq (g2 := F0 mZ 34 ls [.ref H2.size, .ref o]) rfl ?_
  refine mw_putF (ty := .object "MinimaRoom$Procedures") S hD hGb3 hSb3 (Or.inl rfl) iX7 tyX7 tyX7_ok nmX7 hob3 2 rfl (by decide) (hts (.fieldLink RX7 26 "MinimaRoom" "procedures" "LMinimaRoom$Procedures;") (by decide +kernel)) rfl hnm rfl (by decide +kernel) rfl rfl (Nat.le_of_ble_eq_true rfl) dX7_init_34 (fun H3 locs3 ho3 hzc3 hqc3 hS3 hG3 => ?_)
  rw [hz2] at ho3 hhX5 hwX5_0 hwX5_1
  have ho3 : va_at G.1 vwCl (o, .inr (8, [.ref (o + 1), .ref (o + 12), .ref (o + 17), .null, .null, .null, .int 0, .int 0])) H3 := ho3
  have hz3 : H3.size = o + 22 := by omega
  have hhX5 := va_at.kept hhX5 (hqc3 (o + 17) (by omega))
  have hwX5_0 : rw1 G H3 (o + 18) 4 _ := rw1.kept hwX5_0 (hqc3 (o + 17 + 1) (by omega)) (hqc3 (o + 17 + 1 + 1) (by omega))
  have hwX5_1 : rw1 G H3 (o + 20) 4 _ := rw1.kept hwX5_1 (hqc3 (o + 17 + 3) (by omega)) (hqc3 (o + 17 + 3 + 1) (by omega))
  have hhX4 := va_at.kept hhX4 ((hqc3 (o + 1) (by omega)).trans (kb3 (o + 1) (by omega)))
  have hwX4_0 := rw1.kept hwX4_0 ((hqc3 (o + 2) (by omega)).trans (kb3 (o + 2) (by omega))) ((hqc3 (o + 2 + 1) (by omega)).trans (kb3 (o + 2 + 1) (by omega)))
  have hwX4_1 := rw1.kept hwX4_1 ((hqc3 (o + 4) (by omega)).trans (kb3 (o + 4) (by omega))) ((hqc3 (o + 4 + 1) (by omega)).trans (kb3 (o + 4 + 1) (by omega)))
  have hwX4_2 := rw1.kept hwX4_2 ((hqc3 (o + 6) (by omega)).trans (kb3 (o + 6) (by omega))) ((hqc3 (o + 6 + 1) (by omega)).trans (kb3 (o + 6 + 1) (by omega)))
  have hwX4_3 := rw1.kept hwX4_3 ((hqc3 (o + 8) (by omega)).trans (kb3 (o + 8) (by omega))) ((hqc3 (o + 8 + 1) (by omega)).trans (kb3 (o + 8 + 1) (by omega)))
  have hwX4_4 := rw1.kept hwX4_4 ((hqc3 (o + 10) (by omega)).trans (kb3 (o + 10) (by omega))) ((hqc3 (o + 10 + 1) (by omega)).trans (kb3 (o + 10 + 1) (by omega)))
  have hhX0 := va_at.kept hhX0 ((hqc3 (o + 12) (by omega)).trans (kb3 (o + 12) (by omega)))
  have hwX0_0 := rw1.kept hwX0_0 ((hqc3 (o + 13) (by omega)).trans (kb3 (o + 13) (by omega))) ((hqc3 (o + 13 + 1) (by omega)).trans (kb3 (o + 13 + 1) (by omega)))
  have hwX0_1 := rw1.kept hwX0_1 ((hqc3 (o + 15) (by omega)).trans (kb3 (o + 15) (by omega))) ((hqc3 (o + 15 + 1) (by omega)).trans (kb3 (o + 15 + 1) (by omega)))
  have hq3 : ∀ q : Nat, q < o → H3[q]? = H[q]? := fun q hq => (hqc3 q (by omega)).trans ((kb3 q (by omega)).trans (hq2 q hq))
  refine lv_aload_n hx hb dX7_init_37 rfl (lv_at hl 0 rfl) ?_
  refine mw_new (fs := [.null, .null, .null, .int 0]) (ci := 2) S hG3 iX1 tyX1 tyX1_ok (hts (.classLink RX7 30 RX1) (by decide +kernel)) (hts (.instantiable RX1 4) (by decide +kernel)) (hts (.initialized RX1) (by decide +kernel)) rfl (fun j hj => match j, hj with | 0, _ => rfl | 1, _ => rfl | 2, _ => rfl | 3, _ => rfl | _ + 4, h => absurd h (by omega)) ⟨Nat.le_of_ble_eq_true rfl, Nat.le_of_ble_eq_true rfl⟩ dX7_init_38 (fun Ha4 ha4 hza4 hxa4 => ?_)
  have hGa4 := gk_ext hxa4 hG3
  have hSa4 := vs_new hS3 hxa4
  refine lv_dup hx hb dX7_init_41 rfl ?_
  refine mw_IN (As := []) (rest := [.ref H3.size, .ref o]) S hD hGX hGa4 hSa4 (c_X1_init l G Ha4 H3.size (by omega) (by omega) hza4 ha4) (fun q h => h.elim (fun e => Or.inr (by omega)) (fun h => Or.inr (by omega))) gX7_init_X1_init_n32 rfl ⟨rfl, rfl⟩ (hts (.initialized RX1) (by decide +kernel)) nestM_32 (hts (.instanceMethod yX1_init) (by decide +kernel)) rfl nmX1_init ⟨Nat.le_of_ble_eq_true rfl, Nat.le_of_ble_eq_true rfl⟩ rfl hl.1 rfl (Nat.le_of_ble_eq_true rfl) ⟨Nat.le_of_ble_eq_true rfl, Nat.le_of_ble_eq_true rfl⟩ dX7_init_42 (fun Hb4 lb4 v4 hSb4 hsb4 hPb4 hGb4 => ?_)
  obtain ⟨hv4, hhX1, hwX1_0, hwX1_1, hwX1_2, hzb4, hqb4⟩ := hPb4
  subst hv4
  have kb4 : ∀ q : Nat, q < H3.size → Hb4[q]? = H3[q]? := fun q hq => (hqb4 q hq).trans (hxa4.2 q hq)
  have hob4 := va_at.kept ho3 (kb4 o (by omega))
  refine W.eq (g2 := F0 mZ 45 ls [.ref H3.size, .ref o]) rfl ?_
  refine mw_putF (ty := .object "MinimaRoom$Amendments") S hD hGb4 hSb4 (Or.inl rfl) iX7 tyX7 tyX7_ok nmX7 hob4 3 rfl (by decide) (hts (.fieldLink RX7 33 "MinimaRoom" "amendments" "LMinimaRoom$Amendments;") (by decide +kernel)) rfl hnm rfl (by decide +kernel) rfl rfl (Nat.le_of_ble_eq_true rfl) dX7_init_45 (fun H4 locs4 ho4 hzc4 hqc4 hS4 hG4 => ?_)
  rw [hz3] at ho4 hhX1 hwX1_0 hwX1_1 hwX1_2
  have ho4 : va_at G.1 vwCl (o, .inr (8, [.ref (o + 1), .ref (o + 12), .ref (o + 17), .ref (o + 22), .null, .null, .int 0, .int 0])) H4 := ho4
  have hz4 : H4.size = o + 29 := by omega
  have hhX1 := va_at.kept hhX1 (hqc4 (o + 22) (by omega))
  have hwX1_0 : rw1 G H4 (o + 23) 20 _ := rw1.kept hwX1_0 (hqc4 (o + 22 + 1) (by omega)) (hqc4 (o + 22 + 1 + 1) (by omega))
  have hwX1_1 : rw1 G H4 (o + 25) 20 _ := rw1.kept hwX1_1 (hqc4 (o + 22 + 3) (by omega)) (hqc4 (o + 22 + 3 + 1) (by omega))
  have hwX1_2 : rw1 G H4 (o + 27) 20 _ := rw1.kept hwX1_2 (hqc4 (o + 22 + 5) (by omega)) (hqc4 (o + 22 + 5 + 1) (by omega))
  have hhX4 := va_at.kept hhX4 ((hqc4 (o + 1) (by omega)).trans (kb4 (o + 1) (by omega)))
  have hwX4_0 := rw1.kept hwX4_0 ((hqc4 (o + 2) (by omega)).trans (kb4 (o + 2) (by omega))) ((hqc4 (o + 2 + 1) (by omega)).trans (kb4 (o + 2 + 1) (by omega)))
  have hwX4_1 := rw1.kept hwX4_1 ((hqc4 (o + 4) (by omega)).trans (kb4 (o + 4) (by omega))) ((hqc4 (o + 4 + 1) (by omega)).trans (kb4 (o + 4 + 1) (by omega)))
  have hwX4_2 := rw1.kept hwX4_2 ((hqc4 (o + 6) (by omega)).trans (kb4 (o + 6) (by omega))) ((hqc4 (o + 6 + 1) (by omega)).trans (kb4 (o + 6 + 1) (by omega)))
  have hwX4_3 := rw1.kept hwX4_3 ((hqc4 (o + 8) (by omega)).trans (kb4 (o + 8) (by omega))) ((hqc4 (o + 8 + 1) (by omega)).trans (kb4 (o + 8 + 1) (by omega)))
  have hwX4_4 := rw1.kept hwX4_4 ((hqc4 (o + 10) (by omega)).trans (kb4 (o + 10) (by omega))) ((hqc4 (o + 10 + 1) (by omega)).trans (kb4 (o + 10 + 1) (by omega)))
  have hhX0 := va_at.kept hhX0 ((hqc4 (o + 12) (by omega)).trans (kb4 (o + 12) (by omega)))
  have hwX0_0 := rw1.kept hwX0_0 ((hqc4 (o + 13) (by omega)).trans (kb4 (o + 13) (by omega))) ((hqc4 (o + 13 + 1) (by omega)).trans (kb4 (o + 13 + 1) (by omega)))
  have hwX0_1 := rw1.kept hwX0_1 ((hqc4 (o + 15) (by omega)).trans (kb4 (o + 15) (by omega))) ((hqc4 (o + 15 + 1) (by omega)).trans (kb4 (o + 15 + 1) (by omega)))
  have hhX5 := va_at.kept hhX5 ((hqc4 (o + 17) (by omega)).trans (kb4 (o + 17) (by omega)))
  have hwX5_0 := rw1.kept hwX5_0 ((hqc4 (o + 18) (by omega)).trans (kb4 (o + 18) (by omega))) ((hqc4 (o + 18 + 1) (by omega)).trans (kb4 (o + 18 + 1) (by omega)))
  have hwX5_1 := rw1.kept hwX5_1 ((hqc4 (o + 20) (by omega)).trans (kb4 (o + 20) (by omega))) ((hqc4 (o + 20 + 1) (by omega)).trans (kb4 (o + 20 + 1) (by omega)))
  have hq4 : ∀ q : Nat, q < o → H4[q]? = H[q]? := fun q hq => (hqc4 q (by omega)).trans ((kb4 q (by omega)).trans (hq3 q hq))
  refine lv_aload_n hx hb dX7_init_48 rfl (lv_at hl 0 rfl) ?_
  refine mw_new (fs := [.null, .null, .null, .null, .null, .null, .int 0]) (ci := 4) S hG4 iX3 tyX3 tyX3_ok (hts (.classLink RX7 37 RX3) (by decide +kernel)) (hts (.instantiable RX3 7) (by decide +kernel)) (hts (.initialized RX3) (by decide +kernel)) rfl (fun j hj => match j, hj with | 0, _ => rfl | 1, _ => rfl | 2, _ => rfl | 3, _ => rfl | 4, _ => rfl | 5, _ => rfl | 6, _ => rfl | _ + 7, h => absurd h (by omega)) ⟨Nat.le_of_ble_eq_true rfl, Nat.le_of_ble_eq_true rfl⟩ dX7_init_49 (fun Ha5 ha5 hza5 hxa5 => ?_)
  have hGa5 := gk_ext hxa5 hG4
  have hSa5 := vs_new hS4 hxa5
  refine lv_dup hx hb dX7_init_52 rfl ?_
  refine mw_IN (As := []) (rest := [.ref H4.size, .ref o]) S hD hGX hGa5 hSa5 (c_X3_init l G Ha5 H4.size (by omega) (by omega) hza5 ha5) (fun q h => h.elim (fun e => Or.inr (by omega)) (fun h => Or.inr (by omega))) gX7_init_X3_init_n39 rfl ⟨rfl, rfl⟩ (hts (.initialized RX3) (by decide +kernel)) nestM_39 (hts (.instanceMethod yX3_init) (by decide +kernel)) rfl nmX3_init ⟨Nat.le_of_ble_eq_true rfl, Nat.le_of_ble_eq_true rfl⟩ rfl hl.1 rfl (Nat.le_of_ble_eq_true rfl) ⟨Nat.le_of_ble_eq_true rfl, Nat.le_of_ble_eq_true rfl⟩ dX7_init_53 (fun Hb5 lb5 v5 hSb5 hsb5 hPb5 hGb5 => ?_)
  obtain ⟨hv5, hhX3, hwX3_0, hwX3_1, hwX3_2, hwX3_3, hwX3_4, hwX3_5, hzb5, hqb5⟩ := hPb5
  subst hv5
  have kb5 : ∀ q : Nat, q < H4.size → Hb5[q]? = H4[q]? := fun q hq => (hqb5 q hq).trans (hxa5.2 q hq)
  have hob5 := va_at.kept ho4 (kb5 o (by omega))
  refine W.eq (g2 := F0 mZ 56 ls [.ref H4.size, .ref o]) rfl ?_
  refine mw_putF (ty := .object "MinimaRoom$Notices") S hD hGb5 hSb5 (Or.inl rfl) iX7 tyX7 tyX7_ok nmX7 hob5 4 rfl (by decide) (hts (.fieldLink RX7 40 "MinimaRoom" "notices" "LMinimaRoom$Notices;") (by decide +kernel)) rfl hnm rfl (by decide +kernel) rfl rfl (Nat.le_of_ble_eq_true rfl) dX7_init_56 (fun H5 locs5 ho5 hzc5 hqc5 hS5 hG5 => ?_)
  rw [hz4] at ho5 hhX3 hwX3_0 hwX3_1 hwX3_2 hwX3_3 hwX3_4 hwX3_5
  have ho5 : va_at G.1 vwCl (o, .inr (8, [.ref (o + 1), .ref (o + 12), .ref (o + 17), .ref (o + 22), .ref (o + 29), .null, .int 0, .int 0])) H5 := ho5
  have hz5 : H5.size = o + 42 := by omega
  have hhX3 := va_at.kept hhX3 (hqc5 (o + 29) (by omega))
  have hwX3_0 : rw1 G H5 (o + 30) 16 _ := rw1.kept hwX3_0 (hqc5 (o + 29 + 1) (by omega)) (hqc5 (o + 29 + 1 + 1) (by omega))
  have hwX3_1 : rw1 G H5 (o + 32) 16 _ := rw1.kept hwX3_1 (hqc5 (o + 29 + 3) (by omega)) (hqc5 (o + 29 + 3 + 1) (by omega))
  have hwX3_2 : rw1 G H5 (o + 34) 16 _ := rw1.kept hwX3_2 (hqc5 (o + 29 + 5) (by omega)) (hqc5 (o + 29 + 5 + 1) (by omega))
  have hwX3_3 : rw1 G H5 (o + 36) 16 _ := rw1.kept hwX3_3 (hqc5 (o + 29 + 7) (by omega)) (hqc5 (o + 29 + 7 + 1) (by omega))
  have hwX3_4 : rw1 G H5 (o + 38) 16 _ := rw1.kept hwX3_4 (hqc5 (o + 29 + 9) (by omega)) (hqc5 (o + 29 + 9 + 1) (by omega))
  have hwX3_5 : rw1 G H5 (o + 40) 16 _ := rw1.kept hwX3_5 (hqc5 (o + 29 + 11) (by omega)) (hqc5 (o + 29 + 11 + 1) (by omega))
  have hhX4 := va_at.kept hhX4 ((hqc5 (o + 1) (by omega)).trans (kb5 (o + 1) (by omega)))
  have hwX4_0 := rw1.kept hwX4_0 ((hqc5 (o + 2) (by omega)).trans (kb5 (o + 2) (by omega))) ((hqc5 (o + 2 + 1) (by omega)).trans (kb5 (o + 2 + 1) (by omega)))
  have hwX4_1 := rw1.kept hwX4_1 ((hqc5 (o + 4) (by omega)).trans (kb5 (o + 4) (by omega))) ((hqc5 (o + 4 + 1) (by omega)).trans (kb5 (o + 4 + 1) (by omega)))
  have hwX4_2 := rw1.kept hwX4_2 ((hqc5 (o + 6) (by omega)).trans (kb5 (o + 6) (by omega))) ((hqc5 (o + 6 + 1) (by omega)).trans (kb5 (o + 6 + 1) (by omega)))
  have hwX4_3 := rw1.kept hwX4_3 ((hqc5 (o + 8) (by omega)).trans (kb5 (o + 8) (by omega))) ((hqc5 (o + 8 + 1) (by omega)).trans (kb5 (o + 8 + 1) (by omega)))
  have hwX4_4 := rw1.kept hwX4_4 ((hqc5 (o + 10) (by omega)).trans (kb5 (o + 10) (by omega))) ((hqc5 (o + 10 + 1) (by omega)).trans (kb5 (o + 10 + 1) (by omega)))
  have hhX0 := va_at.kept hhX0 ((hqc5 (o + 12) (by omega)).trans (kb5 (o + 12) (by omega)))
  have hwX0_0 := rw1.kept hwX0_0 ((hqc5 (o + 13) (by omega)).trans (kb5 (o + 13) (by omega))) ((hqc5 (o + 13 + 1) (by omega)).trans (kb5 (o + 13 + 1) (by omega)))
  have hwX0_1 := rw1.kept hwX0_1 ((hqc5 (o + 15) (by omega)).trans (kb5 (o + 15) (by omega))) ((hqc5 (o + 15 + 1) (by omega)).trans (kb5 (o + 15 + 1) (by omega)))
  have hhX5 := va_at.kept hhX5 ((hqc5 (o + 17) (by omega)).trans (kb5 (o + 17) (by omega)))
  have hwX5_0 := rw1.kept hwX5_0 ((hqc5 (o + 18) (by omega)).trans (kb5 (o + 18) (by omega))) ((hqc5 (o + 18 + 1) (by omega)).trans (kb5 (o + 18 + 1) (by omega)))
  have hwX5_1 := rw1.kept hwX5_1 ((hqc5 (o + 20) (by omega)).trans (kb5 (o + 20) (by omega))) ((hqc5 (o + 20 + 1) (by omega)).trans (kb5 (o + 20 + 1) (by omega)))
  have hhX1 := va_at.kept hhX1 ((hqc5 (o + 22) (by omega)).trans (kb5 (o + 22) (by omega)))
  have hwX1_0 := rw1.kept hwX1_0 ((hqc5 (o + 23) (by omega)).trans (kb5 (o + 23) (by omega))) ((hqc5 (o + 23 + 1) (by omega)).trans (kb5 (o + 23 + 1) (by omega)))
  have hwX1_1 := rw1.kept hwX1_1 ((hqc5 (o + 25) (by omega)).trans (kb5 (o + 25) (by omega))) ((hqc5 (o + 25 + 1) (by omega)).trans (kb5 (o + 25 + 1) (by omega)))
  have hwX1_2 := rw1.kept hwX1_2 ((hqc5 (o + 27) (by omega)).trans (kb5 (o + 27) (by omega))) ((hqc5 (o + 27 + 1) (by omega)).trans (kb5 (o + 27 + 1) (by omega)))
  have hq5 : ∀ q : Nat, q < o → H5[q]? = H[q]? := fun q hq => (hqc5 q (by omega)).trans ((kb5 q (by omega)).trans (hq4 q hq))
  refine lv_aload_n hx hb dX7_init_59 rfl (lv_at hl 0 rfl) ?_
  refine mw_new (fs := [.null, .null]) (ci := 3) S hG5 iX2 tyX2 tyX2_ok (hts (.classLink RX7 44 RX2) (by decide +kernel)) (hts (.instantiable RX2 2) (by decide +kernel)) (hts (.initialized RX2) (by decide +kernel)) rfl (fun j hj => match j, hj with | 0, _ => rfl | 1, _ => rfl | _ + 2, h => absurd h (by omega)) ⟨Nat.le_of_ble_eq_true rfl, Nat.le_of_ble_eq_true rfl⟩ dX7_init_60 (fun Ha6 ha6 hza6 hxa6 => ?_)
  have hGa6 := gk_ext hxa6 hG5
  have hSa6 := vs_new hS5 hxa6
  refine lv_dup hx hb dX7_init_63 rfl ?_
  refine mw_IN (As := []) (rest := [.ref H5.size, .ref o]) S hD hGX hGa6 hSa6 (c_X2_init l G Ha6 H5.size (by omega) (by omega) hza6 ha6) (fun q h => h.elim (fun e => Or.inr (by omega)) (fun h => Or.inr (by omega))) gX7_init_X2_init_n46 rfl ⟨rfl, rfl⟩ (hts (.initialized RX2) (by decide +kernel)) nestM_46 (hts (.instanceMethod yX2_init) (by decide +kernel)) rfl nmX2_init ⟨Nat.le_of_ble_eq_true rfl, Nat.le_of_ble_eq_true rfl⟩ rfl hl.1 rfl (Nat.le_of_ble_eq_true rfl) ⟨Nat.le_of_ble_eq_true rfl, Nat.le_of_ble_eq_true rfl⟩ dX7_init_64 (fun Hb6 lb6 v6 hSb6 hsb6 hPb6 hGb6 => ?_)
  obtain ⟨hv6, hhX2, hwX2_0, hwX2_1, hzb6, hqb6⟩ := hPb6
  subst hv6
  have kb6 : ∀ q : Nat, q < H5.size → Hb6[q]? = H5[q]? := fun q hq => (hqb6 q hq).trans (hxa6.2 q hq)
  have hob6 := va_at.kept ho5 (kb6 o (by omega))
  refine W.eq (g2 := F0 mZ 67 ls [.ref H5.size, .ref o]) rfl ?_
  refine mw_putF (ty := .object "MinimaRoom$Crews") S hD hGb6 hSb6 (Or.inl rfl) iX7 tyX7 tyX7_ok nmX7 hob6 5 rfl (by decide) (hts (.fieldLink RX7 47 "MinimaRoom" "crews" "LMinimaRoom$Crews;") (by decide +kernel)) rfl hnm rfl (by decide +kernel) rfl rfl (Nat.le_of_ble_eq_true rfl) dX7_init_67 (fun H6 locs6 ho6 hzc6 hqc6 hS6 hG6 => ?_)
  rw [hz5] at ho6 hhX2 hwX2_0 hwX2_1
  have ho6 : va_at G.1 vwCl (o, .inr (8, [.ref (o + 1), .ref (o + 12), .ref (o + 17), .ref (o + 22), .ref (o + 29), .ref (o + 42), .int 0, .int 0])) H6 := ho6
  have hz6 : H6.size = o + 47 := by omega
  have hhX2 := va_at.kept hhX2 (hqc6 (o + 42) (by omega))
  have hwX2_0 : rw1 G H6 (o + 43) 4 _ := rw1.kept hwX2_0 (hqc6 (o + 42 + 1) (by omega)) (hqc6 (o + 42 + 1 + 1) (by omega))
  have hwX2_1 : rw1 G H6 (o + 45) 4 _ := rw1.kept hwX2_1 (hqc6 (o + 42 + 3) (by omega)) (hqc6 (o + 42 + 3 + 1) (by omega))
  have hhX4 := va_at.kept hhX4 ((hqc6 (o + 1) (by omega)).trans (kb6 (o + 1) (by omega)))
  have hwX4_0 := rw1.kept hwX4_0 ((hqc6 (o + 2) (by omega)).trans (kb6 (o + 2) (by omega))) ((hqc6 (o + 2 + 1) (by omega)).trans (kb6 (o + 2 + 1) (by omega)))
  have hwX4_1 := rw1.kept hwX4_1 ((hqc6 (o + 4) (by omega)).trans (kb6 (o + 4) (by omega))) ((hqc6 (o + 4 + 1) (by omega)).trans (kb6 (o + 4 + 1) (by omega)))
  have hwX4_2 := rw1.kept hwX4_2 ((hqc6 (o + 6) (by omega)).trans (kb6 (o + 6) (by omega))) ((hqc6 (o + 6 + 1) (by omega)).trans (kb6 (o + 6 + 1) (by omega)))
  have hwX4_3 := rw1.kept hwX4_3 ((hqc6 (o + 8) (by omega)).trans (kb6 (o + 8) (by omega))) ((hqc6 (o + 8 + 1) (by omega)).trans (kb6 (o + 8 + 1) (by omega)))
  have hwX4_4 := rw1.kept hwX4_4 ((hqc6 (o + 10) (by omega)).trans (kb6 (o + 10) (by omega))) ((hqc6 (o + 10 + 1) (by omega)).trans (kb6 (o + 10 + 1) (by omega)))
  have hhX0 := va_at.kept hhX0 ((hqc6 (o + 12) (by omega)).trans (kb6 (o + 12) (by omega)))
  have hwX0_0 := rw1.kept hwX0_0 ((hqc6 (o + 13) (by omega)).trans (kb6 (o + 13) (by omega))) ((hqc6 (o + 13 + 1) (by omega)).trans (kb6 (o + 13 + 1) (by omega)))
  have hwX0_1 := rw1.kept hwX0_1 ((hqc6 (o + 15) (by omega)).trans (kb6 (o + 15) (by omega))) ((hqc6 (o + 15 + 1) (by omega)).trans (kb6 (o + 15 + 1) (by omega)))
  have hhX5 := va_at.kept hhX5 ((hqc6 (o + 17) (by omega)).trans (kb6 (o + 17) (by omega)))
  have hwX5_0 := rw1.kept hwX5_0 ((hqc6 (o + 18) (by omega)).trans (kb6 (o + 18) (by omega))) ((hqc6 (o + 18 + 1) (by omega)).trans (kb6 (o + 18 + 1) (by omega)))
  have hwX5_1 := rw1.kept hwX5_1 ((hqc6 (o + 20) (by omega)).trans (kb6 (o + 20) (by omega))) ((hqc6 (o + 20 + 1) (by omega)).trans (kb6 (o + 20 + 1) (by omega)))
  have hhX1 := va_at.kept hhX1 ((hqc6 (o + 22) (by omega)).trans (kb6 (o + 22) (by omega)))
  have hwX1_0 := rw1.kept hwX1_0 ((hqc6 (o + 23) (by omega)).trans (kb6 (o + 23) (by omega))) ((hqc6 (o + 23 + 1) (by omega)).trans (kb6 (o + 23 + 1) (by omega)))
  have hwX1_1 := rw1.kept hwX1_1 ((hqc6 (o + 25) (by omega)).trans (kb6 (o + 25) (by omega))) ((hqc6 (o + 25 + 1) (by omega)).trans (kb6 (o + 25 + 1) (by omega)))
  have hwX1_2 := rw1.kept hwX1_2 ((hqc6 (o + 27) (by omega)).trans (kb6 (o + 27) (by omega))) ((hqc6 (o + 27 + 1) (by omega)).trans (kb6 (o + 27 + 1) (by omega)))
  have hhX3 := va_at.kept hhX3 ((hqc6 (o + 29) (by omega)).trans (kb6 (o + 29) (by omega)))
  have hwX3_0 := rw1.kept hwX3_0 ((hqc6 (o + 30) (by omega)).trans (kb6 (o + 30) (by omega))) ((hqc6 (o + 30 + 1) (by omega)).trans (kb6 (o + 30 + 1) (by omega)))
  have hwX3_1 := rw1.kept hwX3_1 ((hqc6 (o + 32) (by omega)).trans (kb6 (o + 32) (by omega))) ((hqc6 (o + 32 + 1) (by omega)).trans (kb6 (o + 32 + 1) (by omega)))
  have hwX3_2 := rw1.kept hwX3_2 ((hqc6 (o + 34) (by omega)).trans (kb6 (o + 34) (by omega))) ((hqc6 (o + 34 + 1) (by omega)).trans (kb6 (o + 34 + 1) (by omega)))
  have hwX3_3 := rw1.kept hwX3_3 ((hqc6 (o + 36) (by omega)).trans (kb6 (o + 36) (by omega))) ((hqc6 (o + 36 + 1) (by omega)).trans (kb6 (o + 36 + 1) (by omega)))
  have hwX3_4 := rw1.kept hwX3_4 ((hqc6 (o + 38) (by omega)).trans (kb6 (o + 38) (by omega))) ((hqc6 (o + 38 + 1) (by omega)).trans (kb6 (o + 38 + 1) (by omega)))
  have hwX3_5 := rw1.kept hwX3_5 ((hqc6 (o + 40) (by omega)).trans (kb6 (o + 40) (by omega))) ((hqc6 (o + 40 + 1) (by omega)).trans (kb6 (o + 40 + 1) (by omega)))
  have hq6 : ∀ q : Nat, q < o → H6[q]? = H[q]? := fun q hq => (hqc6 q (by omega)).trans ((kb6 q (by omega)).trans (hq5 q hq))
  refine lv_aload_n hx hb dX7_init_70 rfl (lv_at hl 0 rfl) ?_
  refine lv_iconst (v := 0) hx hb dX7_init_71 (by decide) ?_
  refine mw_putf (ty := .int) S hD hG6 hS6 (Or.inl rfl) iX7 tyX7 tyX7_ok nmX7 ho6 6 rfl (by decide) (hts (.fieldLink RX7 51 "MinimaRoom" "now" "I") (by decide +kernel)) rfl (by decide +kernel) rfl rfl (Nat.le_of_ble_eq_true rfl) dX7_init_72 (fun H7 locs7 ho7 hzc7 hqc7 hS7 hG7 => ?_)
  refine lv_aload_n hx hb dX7_init_75 rfl (lv_at hl 0 rfl) ?_
  refine lv_iconst (v := 0) hx hb dX7_init_76 (by decide) ?_
  refine mw_putf (ty := .int) S hD hG7 hS7 (Or.inl rfl) iX7 tyX7 tyX7_ok nmX7 ho7 7 rfl (by decide) (hts (.fieldLink RX7 55 "MinimaRoom" "unsafeTold" "I") (by decide +kernel)) rfl (by decide +kernel) rfl rfl (Nat.le_of_ble_eq_true rfl) dX7_init_77 (fun H8 locs8 ho8 hzc8 hqc8 hS8 hG8 => ?_)
  have ho8 : va_at G.1 vwCl (o, .inr (8, [.ref (o + 1), .ref (o + 12), .ref (o + 17), .ref (o + 22), .ref (o + 29), .ref (o + 42), .int 0, .int 0])) H8 := ho8
  have k8 : ∀ q : Nat, q ≠ o → H8[q]? = H6[q]? := fun q hq => (hqc8 q hq).trans (hqc7 q hq)
  refine mw_vret S hr hlk hS8 ⟨Nat.le_of_ble_eq_true rfl, Nat.le_of_ble_eq_true rfl⟩ dX7_init_80 ⟨rfl, ⟨fun k => by show (0 : Nat) < 65536; decide, fun k hk => ?_⟩, by omega, fun q hq => (k8 q (by omega)).trans (hq6 q hq)⟩
  by_cases hk7 : k < 7
  · have h9 : k = 0 ∨ k = 1 ∨ k = 2 ∨ k = 3 ∨ k = 4 ∨ k = 5 ∨ k = 6 := by omega
    rcases h9 with rfl | rfl | rfl | rfl | rfl | rfl | rfl
    · exact ho8
    · exact va_at.kept hhX4 (k8 (o + 1) (by omega))
    · exact va_at.kept hhX0 (k8 (o + 12) (by omega))
    · exact va_at.kept hhX5 (k8 (o + 17) (by omega))
    · exact va_at.kept hhX1 (k8 (o + 22) (by omega))
    · exact va_at.kept hhX3 (k8 (o + 29) (by omega))
    · exact va_at.kept hhX2 (k8 (o + 42) (by omega))
  · have h9 : k = 10 ∨ k = 11 ∨ k = 12 ∨ k = 13 ∨ k = 14 ∨ k = 15 ∨ k = 16 ∨ k = 17 ∨ k = 18 ∨ k = 19 ∨ k = 20 ∨ k = 21 ∨ k = 22 ∨ k = 23 ∨ k = 24 ∨ k = 25 ∨ k = 26 ∨ k = 27 ∨ k = 28 ∨ k = 29 ∨ k = 30 ∨ k = 31 ∨ k = 32 ∨ k = 33 ∨ k = 34 ∨ k = 35 ∨ k = 36 ∨ k = 37 ∨ k = 38 ∨ k = 39 ∨ k = 40 ∨ k = 41 ∨ k = 42 ∨ k = 43 ∨ k = 44 ∨ k = 45 ∨ k = 46 ∨ k = 47 ∨ k = 48 ∨ k = 49 := by omega
    rcases h9 with rfl | rfl | rfl | rfl | rfl | rfl | rfl | rfl | rfl | rfl | rfl | rfl | rfl | rfl | rfl | rfl | rfl | rfl | rfl | rfl | rfl | rfl | rfl | rfl | rfl | rfl | rfl | rfl | rfl | rfl | rfl | rfl | rfl | rfl | rfl | rfl | rfl | rfl | rfl | rfl
    · exact va_at.kept hwX4_0.1 (k8 (o + 2) (by omega))
    · exact va_at.kept hwX4_1.1 (k8 (o + 4) (by omega))
    · exact va_at.kept hwX4_2.1 (k8 (o + 6) (by omega))
    · exact va_at.kept hwX4_3.1 (k8 (o + 8) (by omega))
    · exact va_at.kept hwX4_4.1 (k8 (o + 10) (by omega))
    · exact va_at.kept hwX0_0.1 (k8 (o + 13) (by omega))
    · exact va_at.kept hwX0_1.1 (k8 (o + 15) (by omega))
    · exact va_at.kept hwX5_0.1 (k8 (o + 18) (by omega))
    · exact va_at.kept hwX5_1.1 (k8 (o + 20) (by omega))
    · exact va_at.kept hwX1_0.1 (k8 (o + 23) (by omega))
    · exact va_at.kept hwX1_1.1 (k8 (o + 25) (by omega))
    · exact va_at.kept hwX1_2.1 (k8 (o + 27) (by omega))
    · exact va_at.kept hwX3_0.1 (k8 (o + 30) (by omega))
    · exact va_at.kept hwX3_1.1 (k8 (o + 32) (by omega))
    · exact va_at.kept hwX3_2.1 (k8 (o + 34) (by omega))
    · exact va_at.kept hwX3_3.1 (k8 (o + 36) (by omega))
    · exact va_at.kept hwX3_4.1 (k8 (o + 38) (by omega))
    · exact va_at.kept hwX3_5.1 (k8 (o + 40) (by omega))
    · exact va_at.kept hwX2_0.1 (k8 (o + 43) (by omega))
    · exact va_at.kept hwX2_1.1 (k8 (o + 45) (by omega))
    · exact va_at.kept hwX4_0.2 (k8 (o + 2 + 1) (by omega))
    · exact va_at.kept hwX4_1.2 (k8 (o + 4 + 1) (by omega))
    · exact va_at.kept hwX4_2.2 (k8 (o + 6 + 1) (by omega))
    · exact va_at.kept hwX4_3.2 (k8 (o + 8 + 1) (by omega))
    · exact va_at.kept hwX4_4.2 (k8 (o + 10 + 1) (by omega))
    · exact va_at.kept hwX0_0.2 (k8 (o + 13 + 1) (by omega))
    · exact va_at.kept hwX0_1.2 (k8 (o + 15 + 1) (by omega))
    · exact va_at.kept hwX5_0.2 (k8 (o + 18 + 1) (by omega))
    · exact va_at.kept hwX5_1.2 (k8 (o + 20 + 1) (by omega))
    · exact va_at.kept hwX1_0.2 (k8 (o + 23 + 1) (by omega))
    · exact va_at.kept hwX1_1.2 (k8 (o + 25 + 1) (by omega))
    · exact va_at.kept hwX1_2.2 (k8 (o + 27 + 1) (by omega))
    · exact va_at.kept hwX3_0.2 (k8 (o + 30 + 1) (by omega))
    · exact va_at.kept hwX3_1.2 (k8 (o + 32 + 1) (by omega))
    · exact va_at.kept hwX3_2.2 (k8 (o + 34 + 1) (by omega))
    · exact va_at.kept hwX3_3.2 (k8 (o + 36 + 1) (by omega))
    · exact va_at.kept hwX3_4.2 (k8 (o + 38 + 1) (by omega))
    · exact va_at.kept hwX3_5.2 (k8 (o + 40 + 1) (by omega))
    · exact va_at.kept hwX2_0.2 (k8 (o + 43 + 1) (by omega))
    · exact va_at.kept hwX2_1.2 (k8 (o + 45 + 1) (by omega))
