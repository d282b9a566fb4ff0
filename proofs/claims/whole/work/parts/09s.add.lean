/-! ArrayList.add -/
theorem nmJx4a65c_add_72be8 : nmV yJx4a65c_add_72be8 RJx4a65c 3 := by decide +kernel
theorem nmJx4a65c_add_9ea2d : nmV yJx4a65c_add_9ea2d RJx4a65c 1 := by decide +kernel
set_option maxHeartbeats 1000000 in
theorem c_add3_s (l : Launch) (G : GT) (H : Heap) (hz : G.2.2.1 ≤ H.size) (h : Nat) (hzh : G.2.2.1 ≤ h) (mc : Int32) (a n cap x : Nat) (hza : G.2.2.1 ≤ a) (hah : a ≠ h) (r : Nat → Option Nat) (C : String) (hC : Cond.castable C "java/lang/Object" ∈ tables_1) (hn : n < cap) (hcap : cap < 65536) (h1 : va_at G.1 vwCl (h, lsO mc a n) H) (h2 : va_at G.1 vwCl (a, .inl (G.2.1 1, gRef cap r)) H) (hel : elC G H C 1 (fun _ => some x)) :
    MwV l G (fun q => q = h ∨ q = a ∨ H.size ≤ q) H yJx4a65c_add_72be8 wsJx4a65c_add_72be8 { frames := 6, cells := 1, slots := 40, locals := 160 } [.ref h, .ref x, .ref a, .int (nI n)] 1 40 (fun v t => v = none ∧ va_at G.1 vwCl (h, lsO mc a (n + 1)) t ∧ va_at G.1 vwCl (a, .inl (G.2.1 1, gRef cap (va_up r n (some x)))) t ∧ t.size = H.size ∧ ∀ q : Nat, q ≠ h → q ≠ a → t[q]? = H[q]?) := by
  refine mw_of (cc := cJx4a65c_add_72be8) (maxL := 4) (ret := none) (by decide) rfl (Nat.le_of_ble_eq_true rfl) ?_
  intro pZ eZ sZ mZ bZ meZ cZ ls S hr hlk hl hHs hG hGX
  have S : CallFix pZ mZ cZ cJx4a65c_add_72be8 4 sZ _ wsJx4a65c_add_72be8 RJx4a65c := S
  have hx := S.1
  have hb := S.2.1
  have hts := S.2.2.2.2
  have hl : lv_has ls 4 [(0, .ref h), (1, .ref x), (2, .ref a), (3, .int (nI n))] := hl
  have hD : DP G (fun q => q = h ∨ q = a ∨ H.size ≤ q) H.size := ⟨fun q h => Or.inr (Or.inr h), fun q h => h.elim (fun e => by rw [e]; exact hzh) (fun h => h.elim (fun e => by rw [e]; exact hza) (Nat.le_trans hz))⟩
  have hS : va_S (fun q => q = h ∨ q = a ∨ H.size ≤ q) H H [] := va_S.rf
  have iL : ∀ w ∈ u_ws RJx4a65c TJx4a65c 3, w ∈ wsJx4a65c_add_72be8 := by decide +kernel
  have w1 := hts (.fieldLink RJx4a65c 48 "java/util/ArrayList" "size" "I") (by decide +kernel)
  refine lv_iload_n hx hb dJx4a65c_add_72be8_0 rfl (lv_at hl 3 rfl) ?_
  refine lv_aload_n hx hb dJx4a65c_add_72be8_1 rfl (lv_at hl 2 rfl) ?_
  refine va_alen hx hb hG.1.1 (q_P1 h2) 0 1 rfl rfl (v := nI cap) rfl dJx4a65c_add_72be8_2 ?_
  refine lv_icmp_ne (tgt := 11) hx hb dJx4a65c_add_72be8_3 (by decide) (fun _ => ?_) (fun c => absurd ((nI_eq (by omega) (by omega)).mp c) (by omega))
  refine lv_aload_n hx hb dJx4a65c_add_72be8_11 rfl (lv_at hl 2 rfl) ?_
  refine lv_iload_n hx hb dJx4a65c_add_72be8_12 rfl (lv_at hl 3 rfl) ?_
  refine lv_aload_n hx hb dJx4a65c_add_72be8_13 rfl (lv_at hl 1 rfl) ?_
  refine mw_aast (C := C) S hD hG hS (Or.inr (Or.inl rfl)) h2 (hG.1.2.1 _ hC rfl) (hel sZ hG.1 0 x (by decide) rfl) (vp_in_nI hn (by omega)) dJx4a65c_add_72be8_14 (fun H1 locs1 hn1 hz1 hq1 hS1 hG1 => ?_)
  rw [nI_clamp (by omega)] at hn1
  have h11 := va_at.kept h1 (hq1 _ (Ne.symm hah))
  refine lv_aload_n hx hb dJx4a65c_add_72be8_15 rfl (lv_at hl 0 rfl) ?_
  refine lv_iload_n hx hb dJx4a65c_add_72be8_16 rfl (lv_at hl 3 rfl) ?_
  refine lv_iconst (v := 1) hx hb dJx4a65c_add_72be8_17 (by decide) ?_
  refine lv_iadd hx hb dJx4a65c_add_72be8_18 ?_
  refine W.eq (g2 := F0 mZ 19 ls [.int (nI (n + 1)), .ref h]) (by rw [nI_1]) ?_
  refine mw_putf (ty := .int) S hD hG1 hS1 (Or.inl rfl) iL tyJx4a65c tyJx4a65c_ok nmJx4a65c h11 2 rfl (by decide) w1 rfl (by decide +kernel) rfl rfl (Nat.le_of_ble_eq_true rfl) dJx4a65c_add_72be8_19 (fun H2 locs2 hn2 hz2 hq2 hS2 hG2 => ?_)
  exact mw_vret S hr hlk hS2 ⟨Nat.zero_le _, Nat.zero_le _⟩ dJx4a65c_add_72be8_22 ⟨rfl, hn2, va_at.kept hn1 (hq2 _ hah), by omega, fun q hq hqa => (hq2 q hq).trans (hq1 q hqa)⟩
set_option maxHeartbeats 1000000 in
theorem c_add3_g (l : Launch) (G : GT) (H : Heap) (hz : G.2.2.1 ≤ H.size) (h : Nat) (hzh : G.2.2.1 ≤ h) (mc : Int32) (a n z x : Nat) (r r2 : Nat → Option Nat) (C : String) (hC : Cond.castable C "java/lang/Object" ∈ tables_1) (hn : n < z) (hz2 : z < 65536) (h1 : va_at G.1 vwCl (h, lsO mc a n) H) (h2 : alN G H a n) (hxh : x ≠ h) (hel : elC G H C 1 (fun _ => some x))
    (hin : MwV l G (fun q => q = h ∨ H.size ≤ q) H yJx4a65c_grow_d5877 wsJx4a65c_grow_d5877 { frames := 5, cells := 1, slots := 40, locals := 130 } [.ref h] 1 40 (fun v t => v = some (.ref H.size) ∧ va_at G.1 vwCl (h, lsO mc H.size n) t ∧ va_at G.1 vwCl (H.size, .inl (G.2.1 1, gRef z r2)) t ∧ H.size ≤ t.size ∧ ∀ q : Nat, q < H.size → q ≠ h → t[q]? = H[q]?)) :
    MwV l G (fun q => q = h ∨ H.size ≤ q) H yJx4a65c_add_72be8 wsJx4a65c_add_72be8 { frames := 6, cells := 1, slots := 40, locals := 160 } [.ref h, .ref x, .ref a, .int (nI n)] 1 40 (fun v t => v = none ∧ va_at G.1 vwCl (h, lsO mc H.size (n + 1)) t ∧ va_at G.1 vwCl (H.size, .inl (G.2.1 1, gRef z (va_up r2 n (some x)))) t ∧ H.size ≤ t.size ∧ ∀ q : Nat, q < H.size → q ≠ h → t[q]? = H[q]?) := by
  refine mw_of (cc := cJx4a65c_add_72be8) (maxL := 4) (ret := none) (by decide) rfl (Nat.le_of_ble_eq_true rfl) ?_
  intro pZ eZ sZ mZ bZ meZ cZ ls S hr hlk hl hHs hG hGX
  have S : CallFix pZ mZ cZ cJx4a65c_add_72be8 4 sZ _ wsJx4a65c_add_72be8 RJx4a65c := S
  have hx := S.1
  have hb := S.2.1
  have hts := S.2.2.2.2
  have hl : lv_has ls 4 [(0, .ref h), (1, .ref x), (2, .ref a), (3, .int (nI n))] := hl
  have hD : DP G (fun q => q = h ∨ H.size ≤ q) H.size := ⟨fun q h => Or.inr h, fun q h => h.elim (fun e => by rw [e]; exact hzh) (Nat.le_trans hz)⟩
  have hS : va_S (fun q => q = h ∨ H.size ≤ q) H H [] := va_S.rf
  have iL : ∀ w ∈ u_ws RJx4a65c TJx4a65c 3, w ∈ wsJx4a65c_add_72be8 := by decide +kernel
  have w1 := hts (.fieldLink RJx4a65c 48 "java/util/ArrayList" "size" "I") (by decide +kernel)
  have hlt : h < H.size := va_at.lt h1
  refine lv_iload_n hx hb dJx4a65c_add_72be8_0 rfl (lv_at hl 3 rfl) ?_
  refine lv_aload_n hx hb dJx4a65c_add_72be8_1 rfl (lv_at hl 2 rfl) ?_
  refine q_alen S hG.1 h2 dJx4a65c_add_72be8_2 ?_
  refine lv_icmp_ne (tgt := 11) hx hb dJx4a65c_add_72be8_3 (by decide) (fun c => absurd rfl c) (fun _ => ?_)
  refine lv_aload_n hx hb dJx4a65c_add_72be8_6 rfl (lv_at hl 0 rfl) ?_
  refine mw_V (As := []) (rest := []) S hD hGX hG hS hin (fun q h => h) gJx4a65c_add_72be8_Jx4a65c_grow_d5877 rfl ⟨rfl, rfl⟩ nmJx4a65c_grow_d5877 ⟨Nat.le_of_ble_eq_true rfl, Nat.le_of_ble_eq_true rfl⟩ (rd_rcv hG.1 h1 rfl) rfl hl.1 rfl (Nat.le_of_ble_eq_true rfl) ⟨Nat.le_of_ble_eq_true rfl, Nat.le_of_ble_eq_true rfl⟩ dJx4a65c_add_72be8_7 (fun H1 locs1 v hS1 hs1 hP1 hG1 => ?_)
  obtain ⟨hv, h11, ha1, hz1, hq1⟩ := hP1
  subst hv
  refine W.eq (g2 := F0 mZ 10 ls [.ref H.size]) rfl ?_
  refine lv_astore_n (lv' := [(2, .ref H.size), (0, .ref h), (1, .ref x), (3, .int (nI n))]) hx hb dJx4a65c_add_72be8_10 rfl hl (by decide) rfl (fun ls hl => ?_)
  refine lv_aload_n hx hb dJx4a65c_add_72be8_11 rfl (lv_at hl 0 rfl) ?_
  refine lv_iload_n hx hb dJx4a65c_add_72be8_12 rfl (lv_at hl 3 rfl) ?_
  refine lv_aload_n hx hb dJx4a65c_add_72be8_13 rfl (lv_at hl 2 rfl) ?_
  have hxe : ∃ cellV : Cell, H1[x]? = some cellV ∧ cellV.vm.isStatics = false ∧ sZ.vm.findClass C = some cellV.cls := by
    obtain ⟨cv, k1, k2⟩ := hel sZ hG.1 0 x (by decide) rfl
    exact ⟨cv, by rw [hq1 x (Array.getElem?_eq_some_iff.mp k1).1 hxh]; exact k1, k2⟩
  refine mw_aast (C := C) S hD hG1 hS1 (Or.inr (Nat.le_refl _)) ha1 (hG.1.2.1 _ hC rfl) hxe (vp_in_nI hn (by omega)) dJx4a65c_add_72be8_14 (fun H2 locs2 hn2 hz2 hq2 hS2 hG2 => ?_)
  rw [nI_clamp (by omega)] at hn2
  have h12 := va_at.kept h11 (hq2 _ (by show h ≠ H.size; omega))
  refine lv_aload_n hx hb dJx4a65c_add_72be8_15 rfl (lv_at hl 1 rfl) ?_
  refine lv_iload_n hx hb dJx4a65c_add_72be8_16 rfl (lv_at hl 3 rfl) ?_
  refine lv_iconst (v := 1) hx hb dJx4a65c_add_72be8_17 (by decide) ?_
  refine lv_iadd hx hb dJx4a65c_add_72be8_18 ?_
  refine W.eq (g2 := F0 mZ 19 ls [.int (nI (n + 1)), .ref h]) (by rw [nI_1]) ?_
  refine mw_putf (ty := .int) S hD hG2 hS2 (Or.inl rfl) iL tyJx4a65c tyJx4a65c_ok nmJx4a65c h12 2 rfl (by decide) w1 rfl (by decide +kernel) rfl rfl (Nat.le_of_ble_eq_true rfl) dJx4a65c_add_72be8_19 (fun H3 locs3 hn3 hz3 hq3 hS3 hG3 => ?_)
  exact mw_vret S hr hlk hS3 ⟨Nat.le_of_ble_eq_true rfl, Nat.le_of_ble_eq_true rfl⟩ dJx4a65c_add_72be8_22 ⟨rfl, hn3, va_at.kept hn2 (hq3 _ (by show H.size ≠ h; omega)), by omega, fun q hq hqh => (hq3 q hqh).trans ((hq2 q (by omega)).trans (hq1 q hq hqh))⟩
