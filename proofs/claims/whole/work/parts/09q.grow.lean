/-! a list grows -/
theorem nmJx4a65c_grow_92f84 : nmV yJx4a65c_grow_92f84 RJx4a65c 1 := by decide +kernel
abbrev lsO (mc : Int32) (a n : Nat) : va_E := .inr (0, [.int mc, .ref a, .int (nI n)])
set_option maxHeartbeats 1000000 in
theorem c_grow_0 (l : Launch) (G : GT) (H : Heap) (hz : G.2.2.1 ≤ H.size) (h : Nat) (hzh : G.2.2.1 ≤ h) (mc : Int32) (h1 : va_at G.1 vwCl (h, lsO mc (G.2.2.2 0) 0) H) :
    MwV l G (fun q => q = h ∨ H.size ≤ q) H yJx4a65c_grow_92f84 wsJx4a65c_grow_92f84 { frames := 4, cells := 1, slots := 40, locals := 100 } [.ref h, .int (nI 1)] 1 40 (fun v t => v = some (.ref H.size) ∧ va_at G.1 vwCl (h, lsO mc H.size 0) t ∧ va_at G.1 vwCl (H.size, .inl (G.2.1 1, gRef 10 (fun _ => none))) t ∧ H.size ≤ t.size ∧ ∀ q : Nat, q < H.size → q ≠ h → t[q]? = H[q]?) := by
  refine mw_of (cc := cJx4a65c_grow_92f84) (maxL := 4) (ret := (some (.array (.object "java/lang/Object")))) (by decide) rfl (Nat.le_of_ble_eq_true rfl) ?_
  intro pZ eZ sZ mZ bZ meZ cZ ls S hr hlk hl hHs hG hGX
  have S : CallFix pZ mZ cZ cJx4a65c_grow_92f84 4 sZ _ wsJx4a65c_grow_92f84 RJx4a65c := S
  have hx := S.1
  have hb := S.2.1
  have hown := S.2.2.2.1
  have hts := S.2.2.2.2
  have hl : lv_has ls 4 [(0, .ref h), (1, .int (nI 1))] := hl
  have hD : DP G (fun q => q = h ∨ H.size ≤ q) H.size := ⟨fun q h => Or.inr h, fun q h => h.elim (fun e => by rw [e]; exact hzh) (Nat.le_trans hz)⟩
  have hS : va_S (fun q => q = h ∨ H.size ≤ q) H H [] := va_S.rf
  have iL : ∀ w ∈ u_ws RJx4a65c TJx4a65c 3, w ∈ wsJx4a65c_grow_92f84 := by decide +kernel
  have w1 := hts (.fieldLink RJx4a65c 9 "java/util/ArrayList" "elementData" "[Ljava/lang/Object;") (by decide +kernel)
  have w2 := hts (.fieldLink RJx4a65c 39 "java/util/ArrayList" "DEFAULTCAPACITY_EMPTY_ELEMENTDATA" "[Ljava/lang/Object;") (by decide +kernel)
  have w3 := hts (.classLink RJx4a65c 7 "java/lang/Object") (by decide +kernel)
  have hmax : [.methodLink RJx4a65c 79 Lib.Math.max.name, .static Lib.Math.max.name, .initialized "java/lang/Math", .code Lib.Math.max.name Lib.Math.max.code 2 (some .int)] ⊆ wsJx4a65c_grow_92f84 := by decide +kernel
  refine lv_aload_n hx hb dJx4a65c_grow_92f84_0 rfl (lv_at hl 0 rfl) ?_
  refine rd_get (own := RJx4a65c) (x := .ref (G.2.2.2 0)) S hG.1 iL h1 1 rfl (by decide) w1 rfl dJx4a65c_grow_92f84_1 ?_
  refine q_alen S hG.1 hG.2.2.2.2.2.1 dJx4a65c_grow_92f84_4 ?_
  refine lv_istore_n (lv' := [(2, .int (nI 0)), (0, .ref h), (1, .int (nI 1))]) hx hb dJx4a65c_grow_92f84_5 rfl hl (by decide) rfl (fun ls hl => ?_)
  refine lv_iload_n hx hb dJx4a65c_grow_92f84_6 rfl (lv_at hl 0 rfl) ?_
  refine lv_if_gt (tgt := 20) hx hb dJx4a65c_grow_92f84_7 (by decide) (fun c => absurd c (by decide)) (fun _ => ?_)
  refine lv_aload_n hx hb dJx4a65c_grow_92f84_10 rfl (lv_at hl 1 rfl) ?_
  refine rd_get (own := RJx4a65c) (x := .ref (G.2.2.2 0)) S hG.1 iL h1 1 rfl (by decide) w1 rfl dJx4a65c_grow_92f84_11 ?_
  refine rd_gets (own := RJx4a65c) (x := .ref (G.2.2.2 0)) S hHs hG.2.2.2.2.1.1 w2 dJx4a65c_grow_92f84_14 ?_
  refine lv_acmp_eq (rx := some (G.2.2.2 0)) (ry := some (G.2.2.2 0)) (tgt := 45) hx hb dJx4a65c_grow_92f84_17 (by decide) (fun _ => ?_) (fun c => absurd rfl c)
  refine lv_aload_n hx hb dJx4a65c_grow_92f84_45 rfl (lv_at hl 1 rfl) ?_
  refine lv_bipush (v := 10) hx hb dJx4a65c_grow_92f84_46 (by decide) ?_
  refine lv_iload_n hx hb dJx4a65c_grow_92f84_48 rfl (lv_at hl 2 rfl) ?_
  refine rd_max S hl.1 hmax ⟨Nat.le_of_ble_eq_true rfl, Nat.le_of_ble_eq_true rfl⟩ (Nat.le_of_ble_eq_true rfl) ⟨Nat.zero_le _, Nat.zero_le _⟩ dJx4a65c_grow_92f84_49 ?_
  refine W.eq (g2 := F0 mZ 52 ls [.int 10, .ref h]) rfl ?_
  refine mw_newq (N := 10) S hGX hG w3 (by decide) (by decide) (by decide) ⟨Nat.le_of_ble_eq_true rfl, Nat.le_of_ble_eq_true rfl⟩ dJx4a65c_grow_92f84_52 (fun H1 ha1 hz1 hx1 => ?_)
  have hG1 := gk_ext hx1 hG
  have hS1 := vs_new hS hx1
  have h11 := va_at.kept h1 (hx1.2 _ (va_at.lt h1))
  have hlt := va_at.lt h1
  have hlt : h < H.size := hlt
  refine lv_dup_x1 hx hb dJx4a65c_grow_92f84_55 rfl rfl ?_
  refine mw_putf (ty := .array (.object "java/lang/Object")) S hD hG1 hS1 (Or.inl rfl) iL tyJx4a65c tyJx4a65c_ok nmJx4a65c h11 1 rfl (by decide) w1 rfl (by decide +kernel) rfl rfl (Nat.le_of_ble_eq_true rfl) dJx4a65c_grow_92f84_56 (fun H2 locs2 hn2 hz2 hq2 hS2 hG2 => ?_)
  exact mw_aret S hr (Or.inr ⟨_, rfl⟩) (Or.inr ⟨_, rfl⟩) hlk hS2 ⟨Nat.le_of_ble_eq_true rfl, Nat.le_of_ble_eq_true rfl⟩ dJx4a65c_grow_92f84_59 ⟨rfl, hn2, va_at.kept ha1 (hq2 _ (by show H.size ≠ h; omega)), by omega, fun q hq hne => (hq2 q hne).trans (hx1.2 q hq)⟩
set_option maxHeartbeats 1000000 in
theorem c_grow_N (l : Launch) (G : GT) (H : Heap) (hz : G.2.2.1 ≤ H.size) (h : Nat) (hzh : G.2.2.1 ≤ h) (mc : Int32) (a n z : Nat) (r : Nat → Option Nat) (C : String) (hC : Cond.castable C "java/lang/Object" ∈ tables_1) (hnz : (n = 10 ∧ z = 15) ∨ (n = 15 ∧ z = 22) ∨ (n = 22 ∧ z = 33)) (h1 : va_at G.1 vwCl (h, lsO mc a n) H) (h2 : va_at G.1 vwCl (a, .inl (G.2.1 1, gRef n r)) H) (hel : elC G H C n r) :
    MwV l G (fun q => q = h ∨ H.size ≤ q) H yJx4a65c_grow_92f84 wsJx4a65c_grow_92f84 { frames := 4, cells := 1, slots := 40, locals := 100 } [.ref h, .int (nI (n + 1))] 1 40 (fun v t => v = some (.ref H.size) ∧ va_at G.1 vwCl (h, lsO mc H.size n) t ∧ va_at G.1 vwCl (H.size, .inl (G.2.1 1, gRef z (va_cpy r (fun _ => none) 0 0 n))) t ∧ H.size ≤ t.size ∧ ∀ q : Nat, q < H.size → q ≠ h → t[q]? = H[q]?) := by
  refine mw_of (cc := cJx4a65c_grow_92f84) (maxL := 4) (ret := (some (.array (.object "java/lang/Object")))) (by decide) rfl (Nat.le_of_ble_eq_true rfl) ?_
  intro pZ eZ sZ mZ bZ meZ cZ ls S hr hlk hl hHs hG hGX
  have S : CallFix pZ mZ cZ cJx4a65c_grow_92f84 4 sZ _ wsJx4a65c_grow_92f84 RJx4a65c := S
  have hx := S.1
  have hb := S.2.1
  have hown := S.2.2.2.1
  have hts := S.2.2.2.2
  have hl : lv_has ls 4 [(0, .ref h), (1, .int (nI (n + 1)))] := hl
  have hD : DP G (fun q => q = h ∨ H.size ≤ q) H.size := ⟨fun q h => Or.inr h, fun q h => h.elim (fun e => by rw [e]; exact hzh) (Nat.le_trans hz)⟩
  have hS : va_S (fun q => q = h ∨ H.size ≤ q) H H [] := va_S.rf
  have iL : ∀ w ∈ u_ws RJx4a65c TJx4a65c 3, w ∈ wsJx4a65c_grow_92f84 := by decide +kernel
  have w1 := hts (.fieldLink RJx4a65c 9 "java/util/ArrayList" "elementData" "[Ljava/lang/Object;") (by decide +kernel)
  have hsh : nI n >>> ((1 : Int32) &&& 31) = nI (n / 2) := by rcases hnz with ⟨rfl, -⟩ | ⟨rfl, -⟩ | ⟨rfl, -⟩ <;> decide
  have hlen : nI n + imax (nI 1) (nI (n / 2)) = nI z := by rcases hnz with ⟨rfl, rfl⟩ | ⟨rfl, rfl⟩ | ⟨rfl, rfl⟩ <;> decide
  have hpos : ¬ nI n ≤ 0 := by rcases hnz with ⟨rfl, -⟩ | ⟨rfl, -⟩ | ⟨rfl, -⟩ <;> decide
  refine lv_aload_n hx hb dJx4a65c_grow_92f84_0 rfl (lv_at hl 0 rfl) ?_
  refine rd_get (own := RJx4a65c) (x := .ref a) S hG.1 iL h1 1 rfl (by decide) w1 rfl dJx4a65c_grow_92f84_1 ?_
  refine va_alen hx hb hG.1.1 (q_P1 h2) 0 1 rfl rfl (v := nI n) rfl dJx4a65c_grow_92f84_4 ?_
  refine lv_istore_n (lv' := [(2, .int (nI n)), (0, .ref h), (1, .int (nI (n + 1)))]) hx hb dJx4a65c_grow_92f84_5 rfl hl (by decide) rfl (fun ls hl => ?_)
  refine lv_iload_n hx hb dJx4a65c_grow_92f84_6 rfl (lv_at hl 0 rfl) ?_
  refine lv_if_gt (tgt := 20) hx hb dJx4a65c_grow_92f84_7 (by decide) (fun _ => ?_) (fun c => absurd (Int32.not_le.mp hpos) c)
  refine lv_iload_n hx hb dJx4a65c_grow_92f84_20 rfl (lv_at hl 0 rfl) ?_
  refine lv_iload_n hx hb dJx4a65c_grow_92f84_21 rfl (lv_at hl 2 rfl) ?_
  refine lv_iload_n hx hb dJx4a65c_grow_92f84_22 rfl (lv_at hl 0 rfl) ?_
  refine lv_isub hx hb dJx4a65c_grow_92f84_23 ?_
  refine lv_iload_n hx hb dJx4a65c_grow_92f84_24 rfl (lv_at hl 0 rfl) ?_
  refine lv_iconst (v := 1) hx hb dJx4a65c_grow_92f84_25 (by decide) ?_
  refine lv_ishr hx hb dJx4a65c_grow_92f84_26 ?_
  refine W.eq (g2 := F0 mZ 27 ls [.int (nI (n / 2)), .int (nI 1), .int (nI n)]) (by rw [hsh, show nI (n + 1) - nI n = nI 1 by rw [pk_sub (by omega), Nat.add_sub_cancel_left]]) ?_
  refine rd_S (As := [.int (nI n), .int (nI 1), .int (nI (n / 2))]) (rest := []) (v := some (.int (nI z))) S hG (c_J8_newLength_cabcc l G H n 1 (n / 2) z hlen (by omega) (by omega)) gJx4a65c_grow_92f84_J8_newLength_cabcc rfl ⟨rfl, rfl⟩ nmJ8_newLength_cabcc ⟨Nat.le_of_ble_eq_true rfl, Nat.le_of_ble_eq_true rfl⟩ rfl hl.1 rfl (Nat.le_of_ble_eq_true rfl) ⟨Nat.zero_le _, Nat.zero_le _⟩ dJx4a65c_grow_92f84_27 ?_
  refine W.eq (g2 := F0 mZ 30 ls [.int (nI z)]) rfl ?_
  refine lv_istore_n (lv' := [(3, .int (nI z)), (2, .int (nI n)), (0, .ref h), (1, .int (nI (n + 1)))]) hx hb dJx4a65c_grow_92f84_30 rfl hl (by decide) rfl (fun ls hl => ?_)
  refine lv_aload_n hx hb dJx4a65c_grow_92f84_31 rfl (lv_at hl 2 rfl) ?_
  refine lv_aload_n hx hb dJx4a65c_grow_92f84_32 rfl (lv_at hl 2 rfl) ?_
  refine rd_get (own := RJx4a65c) (x := .ref a) S hG.1 iL h1 1 rfl (by decide) w1 rfl dJx4a65c_grow_92f84_33 ?_
  refine lv_iload_n hx hb dJx4a65c_grow_92f84_36 rfl (lv_at hl 0 rfl) ?_
  refine mw_S (As := [.ref a, .int (nI z)]) (rest := [.ref h]) S hD hGX hG hS (c_J7_copyOf_1904c l G H hz a n z r C hC (by omega) (by omega) h2 hel) (fun q h => Or.inr h) gJx4a65c_grow_92f84_J7_copyOf_1904c rfl ⟨rfl, rfl⟩ nmJ7_copyOf_1904c ⟨Nat.le_of_ble_eq_true rfl, Nat.le_of_ble_eq_true rfl⟩ rfl hl.1 rfl (Nat.le_of_ble_eq_true rfl) ⟨Nat.le_of_ble_eq_true rfl, Nat.le_of_ble_eq_true rfl⟩ dJx4a65c_grow_92f84_37 (fun H1 locs1 v hS1 hs1 hP1 hG1 => ?_)
  obtain ⟨hv, ha1, hx1⟩ := hP1
  subst hv
  have h11 := va_at.kept h1 (hx1.2 _ (va_at.lt h1))
  have hlt : h < H.size := va_at.lt h1
  have hle := hx1.1
  refine lv_dup_x1 (va := .ref H.size) (vb := .ref h) hx hb dJx4a65c_grow_92f84_40 rfl rfl ?_
  refine mw_putf (ty := .array (.object "java/lang/Object")) S hD hG1 hS1 (Or.inl rfl) iL tyJx4a65c tyJx4a65c_ok nmJx4a65c h11 1 rfl (by decide) w1 rfl (by decide +kernel) rfl rfl (Nat.le_of_ble_eq_true rfl) dJx4a65c_grow_92f84_41 (fun H2 locs2 hn2 hz2 hq2 hS2 hG2 => ?_)
  exact mw_aret S hr (Or.inr ⟨_, rfl⟩) (Or.inr ⟨_, rfl⟩) hlk hS2 ⟨Nat.le_of_ble_eq_true rfl, Nat.le_of_ble_eq_true rfl⟩ dJx4a65c_grow_92f84_44 ⟨rfl, hn2, va_at.kept ha1 (hq2 _ (by show H.size ≠ h; omega)), by omega, fun q hq hne => (hq2 q hne).trans (hx1.2 q hq)⟩
