/-! constructors of the class: rows -/
/-- a row at b, its array behind it -/
def rw1 (G : GT) (t : Heap) (b n : Nat) (r : Nat → Int32) : Prop := va_at G.1 vwCl (b, .inr (7, [.ref (b + 1)])) t ∧ va_at G.1 vwCl (b + 1, .inl (G.2.1 0, n, .inl r)) t
theorem rw1.kept {G : GT} {t u : Heap} {b n : Nat} {r : Nat → Int32} (h : rw1 G t b n r) (h1 : u[b]? = t[b]?) (h2 : u[b + 1]? = t[b + 1]?) : rw1 G u b n r := ⟨h.1.kept h1, h.2.kept h2⟩
theorem rw1.cg {G : GT} {t : Heap} {b n : Nat} {r r2 : Nat → Int32} (h : rw1 G t b n r) (hr : ∀ j, j < n → r j = r2 j) : rw1 G t b n r2 := ⟨h.1, va_cg h.2 hr⟩
theorem nmX6_init : nmV yX6_init RX6 2 := by decide +kernel
set_option maxHeartbeats 1000000 in
theorem c_X6_init (l : Launch) (G : GT) (H : Heap) (o n : Nat) (N v : Int32) (hN : N = nI n) (hn : n ≤ 20) (hz : G.2.2.1 ≤ H.size) (hzo : G.2.2.1 ≤ o) (hs : H.size = o + 1) (ho : va_at G.1 vwCl (o, .inr (7, [.null])) H) : MwV l G (DO o H.size) H yX6_init wsX6_init { frames := 1, cells := 1, slots := 20, locals := 12 } [.ref o, .int N, .int v] 1 20 (fun w t => w = none ∧ rw1 G t o n (fun _ => v) ∧ t.size = H.size + 1 ∧ ∀ q : Nat, q < o → t[q]? = H[q]?) := by
  subst hN
  refine mw_ofI (cc := cX6_init) (maxL := 4) (ret := none) (by decide) rfl (Nat.le_of_ble_eq_true rfl) ?_
  intro pZ eZ sZ mZ bZ meZ cZ ls S hr hlk hnm hl hHs hG hGX
  have S : CallFix pZ mZ cZ cX6_init 4 sZ _ wsX6_init RX6 := S
  have hx := S.1
  have hb := S.2.1
  have hown := S.2.2.2.1
  have hts := S.2.2.2.2
  have hl : lv_has ls 4 [(0, .ref o), (1, .int (nI n)), (2, .int v)] := hl
  have hD : DP G (DO o H.size) H.size := dp_o hzo hz
  have hS : va_S (DO o H.size) H H [] := va_S.rf
  have iX6 : ∀ w ∈ u_ws RX6 TX6 1, w ∈ wsX6_init := by decide +kernel
  have w0 := hts (.fieldLink RX6 9 "MinimaRoom$Row" "cells" "[I") (by decide +kernel)
  refine lv_aload_n hx hb dX6_init_0 rfl (lv_at hl 0 rfl) ?_
  refine W.objInit hx hb hown (hts (.methodLink RX6 3 objectInit) (by decide +kernel)) (hts (.instanceMethod objectInit) (by decide +kernel)) (hts (.code objectInit ⟨#[0xb1]⟩ 1 none) (by decide +kernel)) rfl (hl.1.trans S.2.2.1.symm) rfl dX6_init_1 (Nat.le_of_ble_eq_true rfl) (Nat.le_of_ble_eq_true rfl) ?_
  refine W.eq (g2 := F0 mZ 4 ls []) rfl ?_
  refine lv_aload_n hx hb dX6_init_4 rfl (lv_at hl 0 rfl) ?_
  refine lv_iload_n hx hb dX6_init_5 rfl (lv_at hl 1 rfl) ?_
  refine lv_if_ge (tgt := 13) hx hb dX6_init_6 (by decide) (fun c1 => ?_) (fun c1 => absurd (Int32.not_lt.mp (nI_pos (by omega))) c1)
  refine lv_iload_n hx hb dX6_init_13 rfl (lv_at hl 1 rfl) ?_
  refine mw_newa (N := n) S hG (hts (.arrayClass .int) (by decide +kernel)) (nI_pos (by omega)) (nI_clamp (by omega)) (by omega) ⟨by show 0 + 1 ≤ 1; omega, by show 0 + n ≤ 20; omega⟩ dX6_init_14 (fun H1 ha1 hz1 hx1 => ?_)
  have ho1 := va_at.kept ho (hx1.2 _ (va_at.lt ho))
  have hG1 := gk_ext hx1 hG
  have hS1 := vs_new hS hx1
  refine mw_putF (ty := .array .int) S hD hG1 hS1 (Or.inl rfl) iX6 tyX6 tyX6_ok nmX6 ho1 0 rfl (by decide) w0 rfl hnm rfl (by decide +kernel) rfl rfl (Nat.le_of_ble_eq_true rfl) dX6_init_16 (fun H2 locs2 hn2 hz2 hq2 hS2 hG2 => ?_)
  have ha2 := va_at.kept ha1 (hq2 _ (by show H.size ≠ o; omega))
  have hq2' : ∀ q : Nat, q < o → H2[q]? = H[q]? := fun q hq => (hq2 q (by omega)).trans (hx1.2 q (by omega))
  refine lv_iconst (v := 0) hx hb dX6_init_19 (by decide) ?_
  refine lv_istore_n (lv' := [(3, .int 0), (0, .ref o), (1, .int (nI n)), (2, .int v)]) hx hb dX6_init_20 rfl hl (by decide) rfl (fun ls hl => ?_)
  have loop : ∀ (m k : Nat), k + m = n → ∀ (H5 : Heap) (locs5 : List Loc), va_S (DO o H.size) H H5 locs5 → GK G H5 sZ → va_at G.1 vwCl (o, .inr (7, [.ref H.size])) H5 → va_at G.1 vwCl (H.size, .inl (G.2.1 0, n, .inl (fun j => if j < k then v else 0))) H5 → H5.size = H.size + 1 → (∀ q : Nat, q < o → H5[q]? = H[q]?) → ∀ (ls : Array Slot), lv_has ls 4 [(3, .int (nI k)), (0, .ref o), (1, .int (nI n)), (2, .int v)] → W pZ l eZ ({ frames := 1, cells := 1, slots := 20, locals := 12 } : Room) sZ mZ ([.ref o, .int (nI n), .int v] : List Value).toArray bZ meZ cZ H5 locs5 (0 + 1) (0 + n) (mw_Q bZ (DO o H.size) H [.ref o, .int (nI n), .int v] sZ 1 20 (fun w t => w = none ∧ rw1 G t o n (fun _ => v) ∧ t.size = H.size + 1 ∧ ∀ q : Nat, q < o → t[q]? = H[q]?)) (F0 mZ 21 ls []) := by
    intro m
    induction m with
    | zero =>
      intro k hk H5 locs5 hS5 hG5 ho5 ha5 hz5 hq5 ls hl
      obtain rfl : k = n := by omega
      refine lv_iload_n hx hb dX6_init_21 rfl (lv_at hl 0 rfl) ?_
      refine lv_aload_n hx hb dX6_init_22 rfl (lv_at hl 1 rfl) ?_
      refine rd_get (own := RX6) (x := .ref H.size) S hG5.1 iX6 ho5 0 rfl (by decide) w0 rfl dX6_init_23 ?_
      refine rd_alen S hG5.1 ha5 dX6_init_26 ?_
      refine lv_icmp_ge (tgt := 43) hx hb dX6_init_27 (by decide) (fun _ => ?_) (fun c3 => absurd (Int32.le_refl _) c3)
      have ha6 := va_cg (r2 := fun _ => v) ha5 (fun j hj => if_pos hj)
      rw [hs] at ho5 ha6
      exact mw_vret S hr hlk hS5 ⟨Nat.le_refl _, by omega⟩ dX6_init_43 ⟨rfl, ⟨ho5, ha6⟩, hz5, hq5⟩
    | succ m ih =>
      intro k hk H5 locs5 hS5 hG5 ho5 ha5 hz5 hq5 ls hl
      refine lv_iload_n hx hb dX6_init_21 rfl (lv_at hl 0 rfl) ?_
      refine lv_aload_n hx hb dX6_init_22 rfl (lv_at hl 1 rfl) ?_
      refine rd_get (own := RX6) (x := .ref H.size) S hG5.1 iX6 ho5 0 rfl (by decide) w0 rfl dX6_init_23 ?_
      refine rd_alen S hG5.1 ha5 dX6_init_26 ?_
      refine lv_icmp_ge (tgt := 43) hx hb dX6_init_27 (by decide) (fun c3 => absurd c3 (nI_ge (by omega) (by omega))) (fun _ => ?_)
      refine lv_aload_n hx hb dX6_init_30 rfl (lv_at hl 1 rfl) ?_
      refine rd_get (own := RX6) (x := .ref H.size) S hG5.1 iX6 ho5 0 rfl (by decide) w0 rfl dX6_init_31 ?_
      refine lv_iload_n hx hb dX6_init_34 rfl (lv_at hl 0 rfl) ?_
      refine lv_iload_n hx hb dX6_init_35 rfl (lv_at hl 3 rfl) ?_
      refine mw_iast S hD hG5 hS5 (Or.inr (Nat.le_refl _)) ha5 (vp_in_nI (by omega) (by omega)) dX6_init_36 (fun H6 locs6 ha6 hz6 hq6 hS6 hG6 => ?_)
      refine lv_iinc (v := nI (k + 1)) (lv' := [(3, .int (nI (k + 1))), (0, .ref o), (1, .int (nI n)), (2, .int v)]) hx hb dX6_init_37 hl (k := 0) rfl (nI_inc _) (by decide) rfl (fun ls hl => ?_)
      refine lv_goto (tgt := 21) hx hb dX6_init_40 (by decide) ?_
      rw [nI_clamp (by omega)] at ha6
      refine ih (k + 1) (by omega) H6 locs6 hS6 hG6 (va_at.kept ho5 (hq6 _ (by show o ≠ H.size; omega))) (va_cg ha6 (fun j hj => ?_)) (by omega) (fun q hq => (hq6 q (by omega)).trans (hq5 q hq)) ls hl
      show (if j = k then v else if j < k then v else 0) = if j < k + 1 then v else 0
      by_cases e1 : j = k
      · rw [if_pos e1, if_pos (by omega)]
      · rw [if_neg e1]
        by_cases e2 : j < k
        · rw [if_pos e2, if_pos (by omega)]
        · rw [if_neg e2, if_neg (by omega)]
  exact loop n 0 (by omega) H2 locs2 hS2 hG2 hn2 (va_cg ha2 fun j _ => (if_neg (Nat.not_lt_zero j)).symm) (by omega) hq2' ls hl
/-- Row.put on a row by itself -/
theorem c_X6_putO (l : Launch) (G : GT) (H : Heap) (o n i : Nat) (I v : Int32) (r : Nat → Int32) (hI : I = nI i) (hn : n ≤ 20) (hi : i < n) (hz : G.2.2.1 ≤ H.size) (hzo : G.2.2.1 ≤ o) (ho : rw1 G H o n r) : MwV l G (DO (o + 1) H.size) H yX6_put wsX6_put { frames := 0, cells := 0, slots := 0, locals := 0 } [.ref o, .int I, .int v] 0 0 (fun w t => w = none ∧ rw1 G t o n (upd r i v) ∧ t.size = H.size ∧ ∀ q : Nat, q ≠ o + 1 → t[q]? = H[q]?) := by
  subst hI
  refine mw_of (cc := cX6_put) (maxL := 3) (ret := none) (by decide) rfl (Nat.le_of_ble_eq_true rfl) ?_
  intro pZ eZ sZ mZ bZ meZ cZ ls S hr hlk hl hHs hG hGX
  have S : CallFix pZ mZ cZ cX6_put 3 sZ _ wsX6_put RX6 := S
  have hx := S.1
  have hb := S.2.1
  have hl : lv_has ls 3 [(0, .ref o), (1, .int (nI i)), (2, .int v)] := hl
  have hD : DP G (DO (o + 1) H.size) H.size := dp_o (by omega) hz
  have hS : va_S (DO (o + 1) H.size) H H [] := va_S.rf
  have w0 := S.2.2.2.2 (.fieldLink RX6 9 "MinimaRoom$Row" "cells" "[I") (by decide +kernel)
  have iX6 : ∀ w ∈ u_ws RX6 TX6 1, w ∈ wsX6_put := by decide +kernel
  refine lv_iload_n hx hb dX6_put_0 rfl (lv_at hl 1 rfl) ?_
  refine lv_if_lt (tgt := 20) hx hb dX6_put_1 (by decide) (fun c1 => absurd c1 (nI_pos (by omega))) (fun c1 => ?_)
  refine lv_iload_n hx hb dX6_put_4 rfl (lv_at hl 1 rfl) ?_
  refine lv_aload_n hx hb dX6_put_5 rfl (lv_at hl 0 rfl) ?_
  refine rd_get (own := RX6) (x := .ref (o + 1)) S hG.1 iX6 ho.1 0 rfl (by decide) w0 rfl dX6_put_6 ?_
  refine rd_alen S hG.1 ho.2 dX6_put_9 ?_
  refine lv_icmp_ge (tgt := 20) hx hb dX6_put_10 (by decide) (fun c2 => absurd c2 (nI_ge (by omega) (by omega))) (fun c2 => ?_)
  refine lv_aload_n hx hb dX6_put_13 rfl (lv_at hl 0 rfl) ?_
  refine rd_get (own := RX6) (x := .ref (o + 1)) S hG.1 iX6 ho.1 0 rfl (by decide) w0 rfl dX6_put_14 ?_
  refine lv_iload_n hx hb dX6_put_17 rfl (lv_at hl 1 rfl) ?_
  refine lv_iload_n hx hb dX6_put_18 rfl (lv_at hl 2 rfl) ?_
  refine mw_iast S hD hG hS (Or.inl rfl) ho.2 (vp_in_nI (by omega) (by omega)) dX6_put_19 (fun H1 ha1 hn1 hz1 hq1 hS1 hG1 => ?_)
  rw [nI_clamp (by omega)] at hn1
  exact mw_vret S hr hlk hS1 ⟨Nat.le_refl _, Nat.le_refl _⟩ dX6_put_20 ⟨rfl, ⟨ho.1.kept (hq1 o (by omega)), hn1⟩, hz1, hq1⟩
section QIN
variable {p : Program} {l : Launch} {e : Env} {R : Room} {s : State} {m : MethodId} {args : Array Value} {below : List Frame} {meth : Method} {c : Code} {H H1 : Heap} {locs : List Loc} {cells slots : Nat} {Q : State → Prop}
variable {Ts ws ws' : List Cond} {cc bytes : ByteArray} {nL maxL index n : Nat} {own C : String} {y : MethodName} {rm : Room} {b pc nc ns : Nat} {As rest st0 : List Value} {ls : Array Slot} {G : GT} {D D1 : Nat → Prop} {P : Option Value → Heap → Prop} {host : String}
theorem mw_IN (S : CallFix p m c cc nL s args Ts own) (hD : DP G D H.size) (hGX : GX s) (hG : GK G H1 s) (hS : va_S D H H1 locs) (hH : MwV l G D1 H1 y ws rm (.ref b :: As) nc ns P) (hD1 : ∀ q, D1 q → D q) (hT : GoodIn Ts ws) (hw : ws = Cond.code y bytes maxL none :: ws') (h0 : rm.cells = nc ∧ rm.slots = ns) (hini : (Cond.initialized y.cls).before args s = true) (hmem : Cond.methodLinkNest own index y host ∈ tables_1) (him : (Cond.instanceMethod y).before args s = true) (hy1 : y.name = "<init>") (hd : nmV y C n) (hR : rm.frames + 1 ≤ R.frames ∧ 8 + (maxL + 11) + rm.locals ≤ R.locals)
    (hn : As.length = n) (hsz : ls.size = nL) (hst : st0 = As.reverse ++ .ref b :: rest) (hW : (rest.map fun v => v.category).sum ≤ 8) (hf : cells + nc ≤ R.cells ∧ slots + ns ≤ R.slots) (hdg : decode cc pc = .ok (.invokespecial index, 3))
    (kk : ∀ (H2 : Heap) (locs2 : List Loc) (v : Option Value), va_S D H H2 locs2 → va_S D1 H1 H2 [] → P v H2 → GK G H2 s → W p l e R s m args below meth c H2 locs2 (cells + nc) (slots + ns) Q (F0 m (pc + 3) ls (v.toList ++ rest))) : W p l e R s m args below meth c H1 locs cells slots Q (F0 m pc ls st0) :=
  mw_run (Value.ref b :: As).toArray hD hG hS hD1 (va_runIN S hH ⟨va_cnB n S.2.2.2.2 hT hw h0.1 h0.2 (hG.1.2.1 _ hmem rfl) hini hd.2 hR, hy1, him⟩ ⟨mw_blind, fun U hU hWW => ⟨rfl, hU, GK.warm hWW hG, GX.warm hWW hGX⟩⟩ rfl hn hsz hst (lv_room hW) hdg hf) kk
end QIN
theorem nmX4_init : nmV yX4_init RX4 0 := by decide +kernel
set_option maxHeartbeats 2000000 in
theorem c_X4_init (l : Launch) (G : GT) (H : Heap) (o : Nat) (hz : G.2.2.1 ≤ H.size) (hzo : G.2.2.1 ≤ o) (hs : H.size = o + 1) (ho0 : va_at G.1 vwCl (o, .inr (5, [.null, .null, .null, .null, .null, .int 0])) H) : MwV l G (DO o H.size) H yX4_init wsX4_init { frames := 2, cells := 10, slots := 105, locals := 35 } [.ref o] 10 105 (fun w t => w = none ∧ va_at G.1 vwCl (o, .inr (5, [.ref (o + 1), .ref (o + 3), .ref (o + 5), .ref (o + 7), .ref (o + 9), .int 0])) t ∧ rw1 G t (o + 1) 12 (fun _ => 0) ∧ rw1 G t (o + 3) 12 (fun _ => 0) ∧ rw1 G t (o + 5) 12 (fun _ => 0) ∧ rw1 G t (o + 7) 12 (fun _ => 0) ∧ rw1 G t (o + 9) 12 (fun _ => 0) ∧ t.size = H.size + 10 ∧ ∀ q : Nat, q < o → t[q]? = H[q]?) := by
  refine mw_ofI (cc := cX4_init) (maxL := 1) (ret := none) (by decide) rfl (Nat.le_of_ble_eq_true rfl) ?_
  intro pZ eZ sZ mZ bZ meZ cZ ls S hr hlk hnm hl hHs hG0 hGX
  have S : CallFix pZ mZ cZ cX4_init 1 sZ _ wsX4_init RX4 := S
  have hx := S.1
  have hb := S.2.1
  have hown := S.2.2.2.1
  have hts := S.2.2.2.2
  have hl : lv_has ls 1 [(0, .ref o)] := hl
  have hD : DP G (DO o H.size) H.size := dp_o hzo hz
  have hS0 : va_S (DO o H.size) H H [] := va_S.rf
  have iX6 : ∀ w ∈ u_ws RX6 TX6 1, w ∈ wsX4_init := by decide +kernel
  have iX4 : ∀ w ∈ u_ws RX4 TX4 6, w ∈ wsX4_init := by decide +kernel
  refine lv_aload_n hx hb dX4_init_0 rfl (lv_at hl 0 rfl) ?_
  refine W.objInit hx hb hown (hts (.methodLink RX4 3 objectInit) (by decide +kernel)) (hts (.instanceMethod objectInit) (by decide +kernel)) (hts (.code objectInit ⟨#[0xb1]⟩ 1 none) (by decide +kernel)) rfl (hl.1.trans S.2.2.1.symm) rfl dX4_init_1 (Nat.le_of_ble_eq_true rfl) (Nat.le_of_ble_eq_true rfl) ?_
  refine W.eq (g2 := F0 mZ 4 ls []) rfl ?_
  have hz0 : H.size = o + 1 := hs
  have hq0 : ∀ q : Nat, q < o → H[q]? = H[q]? := fun _ _ => rfl
  refine lv_aload_n hx hb dX4_init_4 rfl (lv_at hl 0 rfl) ?_
  refine mw_new (fs := [.null]) (ci := 7) S hG0 iX6 tyX6 tyX6_ok (hts (.classLink RX4 9 RX6) (by decide +kernel)) (hts (.instantiable RX6 1) (by decide +kernel)) (hts (.initialized RX6) (by decide +kernel)) rfl (fun j hj => match j, hj with | 0, _ => rfl | _ + 1, h => absurd h (by omega)) ⟨Nat.le_of_ble_eq_true rfl, Nat.le_of_ble_eq_true rfl⟩ dX4_init_5 (fun Ha1 ha1 hza1 hxa1 => ?_)
  have hGa1 := gk_ext hxa1 hG0
  have hSa1 := vs_new hS0 hxa1
  refine lv_dup hx hb dX4_init_8 rfl ?_
  refine lv_bipush (v := 12) hx hb dX4_init_9 (by decide) ?_
  refine lv_iconst (v := 0) hx hb dX4_init_11 (by decide) ?_
  refine mw_I (As := [.int 12, .int 0]) (rest := [.ref H.size, .ref o]) S hD hGX hGa1 hSa1 (c_X6_init l G Ha1 H.size 12 12 0 (by decide) (by decide) (by omega) (by omega) hza1 ha1) (fun q h => h.elim (fun e => Or.inr (by omega)) (fun h => Or.inr (by omega))) gX4_init_X6_init rfl ⟨rfl, rfl⟩ (hts (.initialized RX6) (by decide +kernel)) (hts (.methodLink RX4 11 yX6_init) (by decide +kernel)) (hts (.instanceMethod yX6_init) (by decide +kernel)) rfl nmX6_init ⟨Nat.le_of_ble_eq_true rfl, Nat.le_of_ble_eq_true rfl⟩ rfl hl.1 rfl (Nat.le_of_ble_eq_true rfl) ⟨Nat.le_of_ble_eq_true rfl, Nat.le_of_ble_eq_true rfl⟩ dX4_init_12 (fun Hb1 lb1 v1 hSb1 hsb1 hPb1 hGb1 => ?_)
  obtain ⟨hv1, hr1_0, hzb1, hqb1⟩ := hPb1
  subst hv1
  have kb1 : ∀ q : Nat, q < H.size → Hb1[q]? = H[q]? := fun q hq => (hqb1 q hq).trans (hxa1.2 q hq)
  have hob1 := va_at.kept ho0 (kb1 o (by omega))
  refine W.eq (g2 := F0 mZ 15 ls [.ref H.size, .ref o]) rfl ?_
  refine mw_putF (ty := .object "MinimaRoom$Row") S hD hGb1 hSb1 (Or.inl rfl) iX4 tyX4 tyX4_ok nmX4 hob1 0 rfl (by decide) (hts (.fieldLink RX4 14 "MinimaRoom$Obstacles" "xs" "LMinimaRoom$Row;") (by decide +kernel)) rfl hnm rfl (by decide +kernel) rfl rfl (Nat.le_of_ble_eq_true rfl) dX4_init_15 (fun H1 locs1 ho1 hzc1 hqc1 hS1 hG1 => ?_)
  rw [hz0] at ho1 hr1_0
  have ho1 : va_at G.1 vwCl (o, .inr (5, [.ref (o + 1), .null, .null, .null, .null, .int 0])) H1 := ho1
  have hz1 : H1.size = o + 3 := by omega
  have hr1_0 := rw1.kept hr1_0 (hqc1 (o + 1) (by omega)) (hqc1 (o + 1 + 1) (by omega))
  have hq1 : ∀ q : Nat, q < o → H1[q]? = H[q]? := fun q hq => (hqc1 q (by omega)).trans ((kb1 q (by omega)).trans (hq0 q hq))
  refine lv_aload_n hx hb dX4_init_18 rfl (lv_at hl 0 rfl) ?_
  refine mw_new (fs := [.null]) (ci := 7) S hG1 iX6 tyX6 tyX6_ok (hts (.classLink RX4 9 RX6) (by decide +kernel)) (hts (.instantiable RX6 1) (by decide +kernel)) (hts (.initialized RX6) (by decide +kernel)) rfl (fun j hj => match j, hj with | 0, _ => rfl | _ + 1, h => absurd h (by omega)) ⟨Nat.le_of_ble_eq_true rfl, Nat.le_of_ble_eq_true rfl⟩ dX4_init_19 (fun Ha2 ha2 hza2 hxa2 => ?_)
  have hGa2 := gk_ext hxa2 hG1
  have hSa2 := vs_new hS1 hxa2
  refine lv_dup hx hb dX4_init_22 rfl ?_
  refine lv_bipush (v := 12) hx hb dX4_init_23 (by decide) ?_
  refine lv_iconst (v := 0) hx hb dX4_init_25 (by decide) ?_
  refine mw_I (As := [.int 12, .int 0]) (rest := [.ref H1.size, .ref o]) S hD hGX hGa2 hSa2 (c_X6_init l G Ha2 H1.size 12 12 0 (by decide) (by decide) (by omega) (by omega) hza2 ha2) (fun q h => h.elim (fun e => Or.inr (by omega)) (fun h => Or.inr (by omega))) gX4_init_X6_init rfl ⟨rfl, rfl⟩ (hts (.initialized RX6) (by decide +kernel)) (hts (.methodLink RX4 11 yX6_init) (by decide +kernel)) (hts (.instanceMethod yX6_init) (by decide +kernel)) rfl nmX6_init ⟨Nat.le_of_ble_eq_true rfl, Nat.le_of_ble_eq_true rfl⟩ rfl hl.1 rfl (Nat.le_of_ble_eq_true rfl) ⟨Nat.le_of_ble_eq_true rfl, Nat.le_of_ble_eq_true rfl⟩ dX4_init_26 (fun Hb2 lb2 v2 hSb2 hsb2 hPb2 hGb2 => ?_)
  obtain ⟨hv2, hr2_1, hzb2, hqb2⟩ := hPb2
  subst hv2
  have kb2 : ∀ q : Nat, q < H1.size → Hb2[q]? = H1[q]? := fun q hq => (hqb2 q hq).trans (hxa2.2 q hq)
  have hob2 := va_at.kept ho1 (kb2 o (by omega))
  refine W.eq (g2 := F0 mZ 29 ls [.ref H1.size, .ref o]) rfl ?_
  refine mw_putF (ty := .object "MinimaRoom$Row") S hD hGb2 hSb2 (Or.inl rfl) iX4 tyX4 tyX4_ok nmX4 hob2 1 rfl (by decide) (hts (.fieldLink RX4 20 "MinimaRoom$Obstacles" "ys" "LMinimaRoom$Row;") (by decide +kernel)) rfl hnm rfl (by decide +kernel) rfl rfl (Nat.le_of_ble_eq_true rfl) dX4_init_29 (fun H2 locs2 ho2 hzc2 hqc2 hS2 hG2 => ?_)
  rw [hz1] at ho2 hr2_1
  have ho2 : va_at G.1 vwCl (o, .inr (5, [.ref (o + 1), .ref (o + 3), .null, .null, .null, .int 0])) H2 := ho2
  have hz2 : H2.size = o + 5 := by omega
  have hr2_0 := rw1.kept hr1_0 ((hqc2 (o + 1) (by omega)).trans (kb2 (o + 1) (by omega))) ((hqc2 (o + 1 + 1) (by omega)).trans (kb2 (o + 1 + 1) (by omega)))
  have hr2_1 := rw1.kept hr2_1 (hqc2 (o + 3) (by omega)) (hqc2 (o + 3 + 1) (by omega))
  have hq2 : ∀ q : Nat, q < o → H2[q]? = H[q]? := fun q hq => (hqc2 q (by omega)).trans ((kb2 q (by omega)).trans (hq1 q hq))
  refine lv_aload_n hx hb dX4_init_32 rfl (lv_at hl 0 rfl) ?_
  refine mw_new (fs := [.null]) (ci := 7) S hG2 iX6 tyX6 tyX6_ok (hts (.classLink RX4 9 RX6) (by decide +kernel)) (hts (.instantiable RX6 1) (by decide +kernel)) (hts (.initialized RX6) (by decide +kernel)) rfl (fun j hj => match j, hj with | 0, _ => rfl | _ + 1, h => absurd h (by omega)) ⟨Nat.le_of_ble_eq_true rfl, Nat.le_of_ble_eq_true rfl⟩ dX4_init_33 (fun Ha3 ha3 hza3 hxa3 => ?_)
  have hGa3 := gk_ext hxa3 hG2
  have hSa3 := vs_new hS2 hxa3
  refine lv_dup hx hb dX4_init_36 rfl ?_
  refine lv_bipush (v := 12) hx hb dX4_init_37 (by decide) ?_
  refine lv_iconst (v := 0) hx hb dX4_init_39 (by decide) ?_
  refine mw_I (As := [.int 12, .int 0]) (rest := [.ref H2.size, .ref o]) S hD hGX hGa3 hSa3 (c_X6_init l G Ha3 H2.size 12 12 0 (by decide) (by decide) (by omega) (by omega) hza3 ha3) (fun q h => h.elim (fun e => Or.inr (by omega)) (fun h => Or.inr (by omega))) gX4_init_X6_init rfl ⟨rfl, rfl⟩ (hts (.initialized RX6) (by decide +kernel)) (hts (.methodLink RX4 11 yX6_init) (by decide +kernel)) (hts (.instanceMethod yX6_init) (by decide +kernel)) rfl nmX6_init ⟨Nat.le_of_ble_eq_true rfl, Nat.le_of_ble_eq_true rfl⟩ rfl hl.1 rfl (Nat.le_of_ble_eq_true rfl) ⟨Nat.le_of_ble_eq_true rfl, Nat.le_of_ble_eq_true rfl⟩ dX4_init_40 (fun Hb3 lb3 v3 hSb3 hsb3 hPb3 hGb3 => ?_)
  obtain ⟨hv3, hr3_2, hzb3, hqb3⟩ := hPb3
  subst hv3
  have kb3 : ∀ q : Nat, q < H2.size → Hb3[q]? = H2[q]? := fun q hq => (hqb3 q hq).trans (hxa3.2 q hq)
  have hob3 := va_at.kept ho2 (kb3 o (by omega))
  refine W.eq (g2 := F0 mZ 43 ls [.ref H2.size, .ref o]) rfl ?_
  refine mw_putF (ty := .object "MinimaRoom$Row") S hD hGb3 hSb3 (Or.inl rfl) iX4 tyX4 tyX4_ok nmX4 hob3 2 rfl (by decide) (hts (.fieldLink RX4 23 "MinimaRoom$Obstacles" "tops" "LMinimaRoom$Row;") (by decide +kernel)) rfl hnm rfl (by decide +kernel) rfl rfl (Nat.le_of_ble_eq_true rfl) dX4_init_43 (fun H3 locs3 ho3 hzc3 hqc3 hS3 hG3 => ?_)
  rw [hz2] at ho3 hr3_2
  have ho3 : va_at G.1 vwCl (o, .inr (5, [.ref (o + 1), .ref (o + 3), .ref (o + 5), .null, .null, .int 0])) H3 := ho3
  have hz3 : H3.size = o + 7 := by omega
  have hr3_0 := rw1.kept hr2_0 ((hqc3 (o + 1) (by omega)).trans (kb3 (o + 1) (by omega))) ((hqc3 (o + 1 + 1) (by omega)).trans (kb3 (o + 1 + 1) (by omega)))
  have hr3_1 := rw1.kept hr2_1 ((hqc3 (o + 3) (by omega)).trans (kb3 (o + 3) (by omega))) ((hqc3 (o + 3 + 1) (by omega)).trans (kb3 (o + 3 + 1) (by omega)))
  have hr3_2 := rw1.kept hr3_2 (hqc3 (o + 5) (by omega)) (hqc3 (o + 5 + 1) (by omega))
  have hq3 : ∀ q : Nat, q < o → H3[q]? = H[q]? := fun q hq => (hqc3 q (by omega)).trans ((kb3 q (by omega)).trans (hq2 q hq))
  refine lv_aload_n hx hb dX4_init_46 rfl (lv_at hl 0 rfl) ?_
  refine mw_new (fs := [.null]) (ci := 7) S hG3 iX6 tyX6 tyX6_ok (hts (.classLink RX4 9 RX6) (by decide +kernel)) (hts (.instantiable RX6 1) (by decide +kernel)) (hts (.initialized RX6) (by decide +kernel)) rfl (fun j hj => match j, hj with | 0, _ => rfl | _ + 1, h => absurd h (by omega)) ⟨Nat.le_of_ble_eq_true rfl, Nat.le_of_ble_eq_true rfl⟩ dX4_init_47 (fun Ha4 ha4 hza4 hxa4 => ?_)
  have hGa4 := gk_ext hxa4 hG3
  have hSa4 := vs_new hS3 hxa4
  refine lv_dup hx hb dX4_init_50 rfl ?_
  refine lv_bipush (v := 12) hx hb dX4_init_51 (by decide) ?_
  refine lv_iconst (v := 0) hx hb dX4_init_53 (by decide) ?_
  refine mw_I (As := [.int 12, .int 0]) (rest := [.ref H3.size, .ref o]) S hD hGX hGa4 hSa4 (c_X6_init l G Ha4 H3.size 12 12 0 (by decide) (by decide) (by omega) (by omega) hza4 ha4) (fun q h => h.elim (fun e => Or.inr (by omega)) (fun h => Or.inr (by omega))) gX4_init_X6_init rfl ⟨rfl, rfl⟩ (hts (.initialized RX6) (by decide +kernel)) (hts (.methodLink RX4 11 yX6_init) (by decide +kernel)) (hts (.instanceMethod yX6_init) (by decide +kernel)) rfl nmX6_init ⟨Nat.le_of_ble_eq_true rfl, Nat.le_of_ble_eq_true rfl⟩ rfl hl.1 rfl (Nat.le_of_ble_eq_true rfl) ⟨Nat.le_of_ble_eq_true rfl, Nat.le_of_ble_eq_true rfl⟩ dX4_init_54 (fun Hb4 lb4 v4 hSb4 hsb4 hPb4 hGb4 => ?_)
  obtain ⟨hv4, hr4_3, hzb4, hqb4⟩ := hPb4
  subst hv4
  have kb4 : ∀ q : Nat, q < H3.size → Hb4[q]? = H3[q]? := fun q hq => (hqb4 q hq).trans (hxa4.2 q hq)
  have hob4 := va_at.kept ho3 (kb4 o (by omega))
  refine W.eq (g2 := F0 mZ 57 ls [.ref H3.size, .ref o]) rfl ?_
  refine mw_putF (ty := .object "MinimaRoom$Row") S hD hGb4 hSb4 (Or.inl rfl) iX4 tyX4 tyX4_ok nmX4 hob4 3 rfl (by decide) (hts (.fieldLink RX4 26 "MinimaRoom$Obstacles" "froms" "LMinimaRoom$Row;") (by decide +kernel)) rfl hnm rfl (by decide +kernel) rfl rfl (Nat.le_of_ble_eq_true rfl) dX4_init_57 (fun H4 locs4 ho4 hzc4 hqc4 hS4 hG4 => ?_)
  rw [hz3] at ho4 hr4_3
  have ho4 : va_at G.1 vwCl (o, .inr (5, [.ref (o + 1), .ref (o + 3), .ref (o + 5), .ref (o + 7), .null, .int 0])) H4 := ho4
  have hz4 : H4.size = o + 9 := by omega
  have hr4_0 := rw1.kept hr3_0 ((hqc4 (o + 1) (by omega)).trans (kb4 (o + 1) (by omega))) ((hqc4 (o + 1 + 1) (by omega)).trans (kb4 (o + 1 + 1) (by omega)))
  have hr4_1 := rw1.kept hr3_1 ((hqc4 (o + 3) (by omega)).trans (kb4 (o + 3) (by omega))) ((hqc4 (o + 3 + 1) (by omega)).trans (kb4 (o + 3 + 1) (by omega)))
  have hr4_2 := rw1.kept hr3_2 ((hqc4 (o + 5) (by omega)).trans (kb4 (o + 5) (by omega))) ((hqc4 (o + 5 + 1) (by omega)).trans (kb4 (o + 5 + 1) (by omega)))
  have hr4_3 := rw1.kept hr4_3 (hqc4 (o + 7) (by omega)) (hqc4 (o + 7 + 1) (by omega))
  have hq4 : ∀ q : Nat, q < o → H4[q]? = H[q]? := fun q hq => (hqc4 q (by omega)).trans ((kb4 q (by omega)).trans (hq3 q hq))
  refine lv_aload_n hx hb dX4_init_60 rfl (lv_at hl 0 rfl) ?_
  refine mw_new (fs := [.null]) (ci := 7) S hG4 iX6 tyX6 tyX6_ok (hts (.classLink RX4 9 RX6) (by decide +kernel)) (hts (.instantiable RX6 1) (by decide +kernel)) (hts (.initialized RX6) (by decide +kernel)) rfl (fun j hj => match j, hj with | 0, _ => rfl | _ + 1, h => absurd h (by omega)) ⟨Nat.le_of_ble_eq_true rfl, Nat.le_of_ble_eq_true rfl⟩ dX4_init_61 (fun Ha5 ha5 hza5 hxa5 => ?_)
  have hGa5 := gk_ext hxa5 hG4
  have hSa5 := vs_new hS4 hxa5
  refine lv_dup hx hb dX4_init_64 rfl ?_
  refine lv_bipush (v := 12) hx hb dX4_init_65 (by decide) ?_
  refine lv_iconst (v := 0) hx hb dX4_init_67 (by decide) ?_
  refine mw_I (As := [.int 12, .int 0]) (rest := [.ref H4.size, .ref o]) S hD hGX hGa5 hSa5 (c_X6_init l G Ha5 H4.size 12 12 0 (by decide) (by decide) (by omega) (by omega) hza5 ha5) (fun q h => h.elim (fun e => Or.inr (by omega)) (fun h => Or.inr (by omega))) gX4_init_X6_init rfl ⟨rfl, rfl⟩ (hts (.initialized RX6) (by decide +kernel)) (hts (.methodLink RX4 11 yX6_init) (by decide +kernel)) (hts (.instanceMethod yX6_init) (by decide +kernel)) rfl nmX6_init ⟨Nat.le_of_ble_eq_true rfl, Nat.le_of_ble_eq_true rfl⟩ rfl hl.1 rfl (Nat.le_of_ble_eq_true rfl) ⟨Nat.le_of_ble_eq_true rfl, Nat.le_of_ble_eq_true rfl⟩ dX4_init_68 (fun Hb5 lb5 v5 hSb5 hsb5 hPb5 hGb5 => ?_)
  obtain ⟨hv5, hr5_4, hzb5, hqb5⟩ := hPb5
  subst hv5
  have kb5 : ∀ q : Nat, q < H4.size → Hb5[q]? = H4[q]? := fun q hq => (hqb5 q hq).trans (hxa5.2 q hq)
  have hob5 := va_at.kept ho4 (kb5 o (by omega))
  refine W.eq (g2 := F0 mZ 71 ls [.ref H4.size, .ref o]) rfl ?_
  refine mw_putF (ty := .object "MinimaRoom$Row") S hD hGb5 hSb5 (Or.inl rfl) iX4 tyX4 tyX4_ok nmX4 hob5 4 rfl (by decide) (hts (.fieldLink RX4 29 "MinimaRoom$Obstacles" "tos" "LMinimaRoom$Row;") (by decide +kernel)) rfl hnm rfl (by decide +kernel) rfl rfl (Nat.le_of_ble_eq_true rfl) dX4_init_71 (fun H5 locs5 ho5 hzc5 hqc5 hS5 hG5 => ?_)
  rw [hz4] at ho5 hr5_4
  have ho5 : va_at G.1 vwCl (o, .inr (5, [.ref (o + 1), .ref (o + 3), .ref (o + 5), .ref (o + 7), .ref (o + 9), .int 0])) H5 := ho5
  have hz5 : H5.size = o + 11 := by omega
  have hr5_0 := rw1.kept hr4_0 ((hqc5 (o + 1) (by omega)).trans (kb5 (o + 1) (by omega))) ((hqc5 (o + 1 + 1) (by omega)).trans (kb5 (o + 1 + 1) (by omega)))
  have hr5_1 := rw1.kept hr4_1 ((hqc5 (o + 3) (by omega)).trans (kb5 (o + 3) (by omega))) ((hqc5 (o + 3 + 1) (by omega)).trans (kb5 (o + 3 + 1) (by omega)))
  have hr5_2 := rw1.kept hr4_2 ((hqc5 (o + 5) (by omega)).trans (kb5 (o + 5) (by omega))) ((hqc5 (o + 5 + 1) (by omega)).trans (kb5 (o + 5 + 1) (by omega)))
  have hr5_3 := rw1.kept hr4_3 ((hqc5 (o + 7) (by omega)).trans (kb5 (o + 7) (by omega))) ((hqc5 (o + 7 + 1) (by omega)).trans (kb5 (o + 7 + 1) (by omega)))
  have hr5_4 := rw1.kept hr5_4 (hqc5 (o + 9) (by omega)) (hqc5 (o + 9 + 1) (by omega))
  have hq5 : ∀ q : Nat, q < o → H5[q]? = H[q]? := fun q hq => (hqc5 q (by omega)).trans ((kb5 q (by omega)).trans (hq4 q hq))
  refine lv_aload_n hx hb dX4_init_74 rfl (lv_at hl 0 rfl) ?_
  refine lv_iconst (v := 0) hx hb dX4_init_75 (by decide) ?_
  refine mw_putf (ty := .int) S hD hG5 hS5 (Or.inl rfl) iX4 tyX4 tyX4_ok nmX4 ho5 5 rfl (by decide) (hts (.fieldLink RX4 32 "MinimaRoom$Obstacles" "count" "I") (by decide +kernel)) rfl (by decide +kernel) rfl rfl (Nat.le_of_ble_eq_true rfl) dX4_init_76 (fun Hz lz hoz hzz hqz hSz hGz => ?_)
  exact mw_vret S hr hlk hSz ⟨Nat.le_of_ble_eq_true rfl, Nat.le_of_ble_eq_true rfl⟩ dX4_init_79 ⟨rfl, hoz, rw1.kept hr5_0 (hqz (o + 1) (by omega)) (hqz (o + 1 + 1) (by omega)), rw1.kept hr5_1 (hqz (o + 3) (by omega)) (hqz (o + 3 + 1) (by omega)), rw1.kept hr5_2 (hqz (o + 5) (by omega)) (hqz (o + 5 + 1) (by omega)), rw1.kept hr5_3 (hqz (o + 7) (by omega)) (hqz (o + 7 + 1) (by omega)), rw1.kept hr5_4 (hqz (o + 9) (by omega)) (hqz (o + 9 + 1) (by omega)), by omega, fun q hq => (hqz q (by omega)).trans (hq5 q hq)⟩
theorem nmX5_init : nmV yX5_init RX5 0 := by decide +kernel
set_option maxHeartbeats 2000000 in
theorem c_X5_init (l : Launch) (G : GT) (H : Heap) (o : Nat) (hz : G.2.2.1 ≤ H.size) (hzo : G.2.2.1 ≤ o) (hs : H.size = o + 1) (ho0 : va_at G.1 vwCl (o, .inr (6, [.null, .null, .int 0])) H) : MwV l G (DO o H.size) H yX5_init wsX5_init { frames := 2, cells := 4, slots := 42, locals := 35 } [.ref o] 4 42 (fun w t => w = none ∧ va_at G.1 vwCl (o, .inr (6, [.ref (o + 1), .ref (o + 3), .int 0])) t ∧ rw1 G t (o + 1) 4 (fun _ => 0) ∧ rw1 G t (o + 3) 4 (fun _ => 0) ∧ t.size = H.size + 4 ∧ ∀ q : Nat, q < o → t[q]? = H[q]?) := by
  refine mw_ofI (cc := cX5_init) (maxL := 1) (ret := none) (by decide) rfl (Nat.le_of_ble_eq_true rfl) ?_
  intro pZ eZ sZ mZ bZ meZ cZ ls S hr hlk hnm hl hHs hG0 hGX
  have S : CallFix pZ mZ cZ cX5_init 1 sZ _ wsX5_init RX5 := S
  have hx := S.1
  have hb := S.2.1
  have hown := S.2.2.2.1
  have hts := S.2.2.2.2
  have hl : lv_has ls 1 [(0, .ref o)] := hl
  have hD : DP G (DO o H.size) H.size := dp_o hzo hz
  have hS0 : va_S (DO o H.size) H H [] := va_S.rf
  have iX6 : ∀ w ∈ u_ws RX6 TX6 1, w ∈ wsX5_init := by decide +kernel
  have iX5 : ∀ w ∈ u_ws RX5 TX5 3, w ∈ wsX5_init := by decide +kernel
  refine lv_aload_n hx hb dX5_init_0 rfl (lv_at hl 0 rfl) ?_
  refine W.objInit hx hb hown (hts (.methodLink RX5 3 objectInit) (by decide +kernel)) (hts (.instanceMethod objectInit) (by decide +kernel)) (hts (.code objectInit ⟨#[0xb1]⟩ 1 none) (by decide +kernel)) rfl (hl.1.trans S.2.2.1.symm) rfl dX5_init_1 (Nat.le_of_ble_eq_true rfl) (Nat.le_of_ble_eq_true rfl) ?_
  refine W.eq (g2 := F0 mZ 4 ls []) rfl ?_
  have hz0 : H.size = o + 1 := hs
  have hq0 : ∀ q : Nat, q < o → H[q]? = H[q]? := fun _ _ => rfl
  refine lv_aload_n hx hb dX5_init_4 rfl (lv_at hl 0 rfl) ?_
  refine mw_new (fs := [.null]) (ci := 7) S hG0 iX6 tyX6 tyX6_ok (hts (.classLink RX5 9 RX6) (by decide +kernel)) (hts (.instantiable RX6 1) (by decide +kernel)) (hts (.initialized RX6) (by decide +kernel)) rfl (fun j hj => match j, hj with | 0, _ => rfl | _ + 1, h => absurd h (by omega)) ⟨Nat.le_of_ble_eq_true rfl, Nat.le_of_ble_eq_true rfl⟩ dX5_init_5 (fun Ha1 ha1 hza1 hxa1 => ?_)
  have hGa1 := gk_ext hxa1 hG0
  have hSa1 := vs_new hS0 hxa1
  refine lv_dup hx hb dX5_init_8 rfl ?_
  refine lv_iconst (v := 4) hx hb dX5_init_9 (by decide) ?_
  refine lv_iconst (v := 0) hx hb dX5_init_10 (by decide) ?_
  refine mw_I (As := [.int 4, .int 0]) (rest := [.ref H.size, .ref o]) S hD hGX hGa1 hSa1 (c_X6_init l G Ha1 H.size 4 4 0 (by decide) (by decide) (by omega) (by omega) hza1 ha1) (fun q h => h.elim (fun e => Or.inr (by omega)) (fun h => Or.inr (by omega))) gX5_init_X6_init rfl ⟨rfl, rfl⟩ (hts (.initialized RX6) (by decide +kernel)) (hts (.methodLink RX5 11 yX6_init) (by decide +kernel)) (hts (.instanceMethod yX6_init) (by decide +kernel)) rfl nmX6_init ⟨Nat.le_of_ble_eq_true rfl, Nat.le_of_ble_eq_true rfl⟩ rfl hl.1 rfl (Nat.le_of_ble_eq_true rfl) ⟨Nat.le_of_ble_eq_true rfl, Nat.le_of_ble_eq_true rfl⟩ dX5_init_11 (fun Hb1 lb1 v1 hSb1 hsb1 hPb1 hGb1 => ?_)
  obtain ⟨hv1, hr1_0, hzb1, hqb1⟩ := hPb1
  subst hv1
  have kb1 : ∀ q : Nat, q < H.size → Hb1[q]? = H[q]? := fun q hq => (hqb1 q hq).trans (hxa1.2 q hq)
  have hob1 := va_at.kept ho0 (kb1 o (by omega))
  refine W.eq (g2 := F0 mZ 14 ls [.ref H.size, .ref o]) rfl ?_
  refine mw_putF (ty := .object "MinimaRoom$Row") S hD hGb1 hSb1 (Or.inl rfl) iX5 tyX5 tyX5_ok nmX5 hob1 0 rfl (by decide) (hts (.fieldLink RX5 14 "MinimaRoom$Procedures" "aids" "LMinimaRoom$Row;") (by decide +kernel)) rfl hnm rfl (by decide +kernel) rfl rfl (Nat.le_of_ble_eq_true rfl) dX5_init_14 (fun H1 locs1 ho1 hzc1 hqc1 hS1 hG1 => ?_)
  rw [hz0] at ho1 hr1_0
  have ho1 : va_at G.1 vwCl (o, .inr (6, [.ref (o + 1), .null, .int 0])) H1 := ho1
  have hz1 : H1.size = o + 3 := by omega
  have hr1_0 := rw1.kept hr1_0 (hqc1 (o + 1) (by omega)) (hqc1 (o + 1 + 1) (by omega))
  have hq1 : ∀ q : Nat, q < o → H1[q]? = H[q]? := fun q hq => (hqc1 q (by omega)).trans ((kb1 q (by omega)).trans (hq0 q hq))
  refine lv_aload_n hx hb dX5_init_17 rfl (lv_at hl 0 rfl) ?_
  refine mw_new (fs := [.null]) (ci := 7) S hG1 iX6 tyX6 tyX6_ok (hts (.classLink RX5 9 RX6) (by decide +kernel)) (hts (.instantiable RX6 1) (by decide +kernel)) (hts (.initialized RX6) (by decide +kernel)) rfl (fun j hj => match j, hj with | 0, _ => rfl | _ + 1, h => absurd h (by omega)) ⟨Nat.le_of_ble_eq_true rfl, Nat.le_of_ble_eq_true rfl⟩ dX5_init_18 (fun Ha2 ha2 hza2 hxa2 => ?_)
  have hGa2 := gk_ext hxa2 hG1
  have hSa2 := vs_new hS1 hxa2
  refine lv_dup hx hb dX5_init_21 rfl ?_
  refine lv_iconst (v := 4) hx hb dX5_init_22 (by decide) ?_
  refine lv_iconst (v := 0) hx hb dX5_init_23 (by decide) ?_
  refine mw_I (As := [.int 4, .int 0]) (rest := [.ref H1.size, .ref o]) S hD hGX hGa2 hSa2 (c_X6_init l G Ha2 H1.size 4 4 0 (by decide) (by decide) (by omega) (by omega) hza2 ha2) (fun q h => h.elim (fun e => Or.inr (by omega)) (fun h => Or.inr (by omega))) gX5_init_X6_init rfl ⟨rfl, rfl⟩ (hts (.initialized RX6) (by decide +kernel)) (hts (.methodLink RX5 11 yX6_init) (by decide +kernel)) (hts (.instanceMethod yX6_init) (by decide +kernel)) rfl nmX6_init ⟨Nat.le_of_ble_eq_true rfl, Nat.le_of_ble_eq_true rfl⟩ rfl hl.1 rfl (Nat.le_of_ble_eq_true rfl) ⟨Nat.le_of_ble_eq_true rfl, Nat.le_of_ble_eq_true rfl⟩ dX5_init_24 (fun Hb2 lb2 v2 hSb2 hsb2 hPb2 hGb2 => ?_)
  obtain ⟨hv2, hr2_1, hzb2, hqb2⟩ := hPb2
  subst hv2
  have kb2 : ∀ q : Nat, q < H1.size → Hb2[q]? = H1[q]? := fun q hq => (hqb2 q hq).trans (hxa2.2 q hq)
  have hob2 := va_at.kept ho1 (kb2 o (by omega))
  refine W.eq (g2 := F0 mZ 27 ls [.ref H1.size, .ref o]) rfl ?_
  refine mw_putF (ty := .object "MinimaRoom$Row") S hD hGb2 hSb2 (Or.inl rfl) iX5 tyX5 tyX5_ok nmX5 hob2 1 rfl (by decide) (hts (.fieldLink RX5 20 "MinimaRoom$Procedures" "slopes" "LMinimaRoom$Row;") (by decide +kernel)) rfl hnm rfl (by decide +kernel) rfl rfl (Nat.le_of_ble_eq_true rfl) dX5_init_27 (fun H2 locs2 ho2 hzc2 hqc2 hS2 hG2 => ?_)
  rw [hz1] at ho2 hr2_1
  have ho2 : va_at G.1 vwCl (o, .inr (6, [.ref (o + 1), .ref (o + 3), .int 0])) H2 := ho2
  have hz2 : H2.size = o + 5 := by omega
  have hr2_0 := rw1.kept hr1_0 ((hqc2 (o + 1) (by omega)).trans (kb2 (o + 1) (by omega))) ((hqc2 (o + 1 + 1) (by omega)).trans (kb2 (o + 1 + 1) (by omega)))
  have hr2_1 := rw1.kept hr2_1 (hqc2 (o + 3) (by omega)) (hqc2 (o + 3 + 1) (by omega))
  have hq2 : ∀ q : Nat, q < o → H2[q]? = H[q]? := fun q hq => (hqc2 q (by omega)).trans ((kb2 q (by omega)).trans (hq1 q hq))
  refine lv_aload_n hx hb dX5_init_30 rfl (lv_at hl 0 rfl) ?_
  refine lv_iconst (v := 0) hx hb dX5_init_31 (by decide) ?_
  refine mw_putf (ty := .int) S hD hG2 hS2 (Or.inl rfl) iX5 tyX5 tyX5_ok nmX5 ho2 2 rfl (by decide) (hts (.fieldLink RX5 23 "MinimaRoom$Procedures" "count" "I") (by decide +kernel)) rfl (by decide +kernel) rfl rfl (Nat.le_of_ble_eq_true rfl) dX5_init_32 (fun Hz lz hoz hzz hqz hSz hGz => ?_)
  exact mw_vret S hr hlk hSz ⟨Nat.le_of_ble_eq_true rfl, Nat.le_of_ble_eq_true rfl⟩ dX5_init_35 ⟨rfl, hoz, rw1.kept hr2_0 (hqz (o + 1) (by omega)) (hqz (o + 1 + 1) (by omega)), rw1.kept hr2_1 (hqz (o + 3) (by omega)) (hqz (o + 3 + 1) (by omega)), by omega, fun q hq => (hqz q (by omega)).trans (hq2 q hq)⟩
theorem nmX1_init : nmV yX1_init RX1 0 := by decide +kernel
set_option maxHeartbeats 2000000 in
theorem c_X1_init (l : Launch) (G : GT) (H : Heap) (o : Nat) (hz : G.2.2.1 ≤ H.size) (hzo : G.2.2.1 ≤ o) (hs : H.size = o + 1) (ho0 : va_at G.1 vwCl (o, .inr (2, [.null, .null, .null, .int 0])) H) : MwV l G (DO o H.size) H yX1_init wsX1_init { frames := 2, cells := 6, slots := 63, locals := 35 } [.ref o] 6 63 (fun w t => w = none ∧ va_at G.1 vwCl (o, .inr (2, [.ref (o + 1), .ref (o + 3), .ref (o + 5), .int 0])) t ∧ rw1 G t (o + 1) 20 (fun _ => 0) ∧ rw1 G t (o + 3) 20 (fun _ => 0) ∧ rw1 G t (o + 5) 20 (fun _ => 0) ∧ t.size = H.size + 6 ∧ ∀ q : Nat, q < o → t[q]? = H[q]?) := by
  refine mw_ofI (cc := cX1_init) (maxL := 1) (ret := none) (by decide) rfl (Nat.le_of_ble_eq_true rfl) ?_
  intro pZ eZ sZ mZ bZ meZ cZ ls S hr hlk hnm hl hHs hG0 hGX
  have S : CallFix pZ mZ cZ cX1_init 1 sZ _ wsX1_init RX1 := S
  have hx := S.1
  have hb := S.2.1
  have hown := S.2.2.2.1
  have hts := S.2.2.2.2
  have hl : lv_has ls 1 [(0, .ref o)] := hl
  have hD : DP G (DO o H.size) H.size := dp_o hzo hz
  have hS0 : va_S (DO o H.size) H H [] := va_S.rf
  have iX6 : ∀ w ∈ u_ws RX6 TX6 1, w ∈ wsX1_init := by decide +kernel
  have iX1 : ∀ w ∈ u_ws RX1 TX1 4, w ∈ wsX1_init := by decide +kernel
  refine lv_aload_n hx hb dX1_init_0 rfl (lv_at hl 0 rfl) ?_
  refine W.objInit hx hb hown (hts (.methodLink RX1 3 objectInit) (by decide +kernel)) (hts (.instanceMethod objectInit) (by decide +kernel)) (hts (.code objectInit ⟨#[0xb1]⟩ 1 none) (by decide +kernel)) rfl (hl.1.trans S.2.2.1.symm) rfl dX1_init_1 (Nat.le_of_ble_eq_true rfl) (Nat.le_of_ble_eq_true rfl) ?_
  refine W.eq (g2 := F0 mZ 4 ls []) rfl ?_
  have hz0 : H.size = o + 1 := hs
  have hq0 : ∀ q : Nat, q < o → H[q]? = H[q]? := fun _ _ => rfl
  refine lv_aload_n hx hb dX1_init_4 rfl (lv_at hl 0 rfl) ?_
  refine mw_new (fs := [.null]) (ci := 7) S hG0 iX6 tyX6 tyX6_ok (hts (.classLink RX1 9 RX6) (by decide +kernel)) (hts (.instantiable RX6 1) (by decide +kernel)) (hts (.initialized RX6) (by decide +kernel)) rfl (fun j hj => match j, hj with | 0, _ => rfl | _ + 1, h => absurd h (by omega)) ⟨Nat.le_of_ble_eq_true rfl, Nat.le_of_ble_eq_true rfl⟩ dX1_init_5 (fun Ha1 ha1 hza1 hxa1 => ?_)
  have hGa1 := gk_ext hxa1 hG0
  have hSa1 := vs_new hS0 hxa1
  refine lv_dup hx hb dX1_init_8 rfl ?_
  refine lv_bipush (v := 20) hx hb dX1_init_9 (by decide) ?_
  refine lv_iconst (v := 0) hx hb dX1_init_11 (by decide) ?_
  refine mw_I (As := [.int 20, .int 0]) (rest := [.ref H.size, .ref o]) S hD hGX hGa1 hSa1 (c_X6_init l G Ha1 H.size 20 20 0 (by decide) (by decide) (by omega) (by omega) hza1 ha1) (fun q h => h.elim (fun e => Or.inr (by omega)) (fun h => Or.inr (by omega))) gX1_init_X6_init rfl ⟨rfl, rfl⟩ (hts (.initialized RX6) (by decide +kernel)) (hts (.methodLink RX1 11 yX6_init) (by decide +kernel)) (hts (.instanceMethod yX6_init) (by decide +kernel)) rfl nmX6_init ⟨Nat.le_of_ble_eq_true rfl, Nat.le_of_ble_eq_true rfl⟩ rfl hl.1 rfl (Nat.le_of_ble_eq_true rfl) ⟨Nat.le_of_ble_eq_true rfl, Nat.le_of_ble_eq_true rfl⟩ dX1_init_12 (fun Hb1 lb1 v1 hSb1 hsb1 hPb1 hGb1 => ?_)
  obtain ⟨hv1, hr1_0, hzb1, hqb1⟩ := hPb1
  subst hv1
  have kb1 : ∀ q : Nat, q < H.size → Hb1[q]? = H[q]? := fun q hq => (hqb1 q hq).trans (hxa1.2 q hq)
  have hob1 := va_at.kept ho0 (kb1 o (by omega))
  refine W.eq (g2 := F0 mZ 15 ls [.ref H.size, .ref o]) rfl ?_
  refine mw_putF (ty := .object "MinimaRoom$Row") S hD hGb1 hSb1 (Or.inl rfl) iX1 tyX1 tyX1_ok nmX1 hob1 0 rfl (by decide) (hts (.fieldLink RX1 14 "MinimaRoom$Amendments" "procedures" "LMinimaRoom$Row;") (by decide +kernel)) rfl hnm rfl (by decide +kernel) rfl rfl (Nat.le_of_ble_eq_true rfl) dX1_init_15 (fun H1 locs1 ho1 hzc1 hqc1 hS1 hG1 => ?_)
  rw [hz0] at ho1 hr1_0
  have ho1 : va_at G.1 vwCl (o, .inr (2, [.ref (o + 1), .null, .null, .int 0])) H1 := ho1
  have hz1 : H1.size = o + 3 := by omega
  have hr1_0 := rw1.kept hr1_0 (hqc1 (o + 1) (by omega)) (hqc1 (o + 1 + 1) (by omega))
  have hq1 : ∀ q : Nat, q < o → H1[q]? = H[q]? := fun q hq => (hqc1 q (by omega)).trans ((kb1 q (by omega)).trans (hq0 q hq))
  refine lv_aload_n hx hb dX1_init_18 rfl (lv_at hl 0 rfl) ?_
  refine mw_new (fs := [.null]) (ci := 7) S hG1 iX6 tyX6 tyX6_ok (hts (.classLink RX1 9 RX6) (by decide +kernel)) (hts (.instantiable RX6 1) (by decide +kernel)) (hts (.initialized RX6) (by decide +kernel)) rfl (fun j hj => match j, hj with | 0, _ => rfl | _ + 1, h => absurd h (by omega)) ⟨Nat.le_of_ble_eq_true rfl, Nat.le_of_ble_eq_true rfl⟩ dX1_init_19 (fun Ha2 ha2 hza2 hxa2 => ?_)
  have hGa2 := gk_ext hxa2 hG1
  have hSa2 := vs_new hS1 hxa2
  refine lv_dup hx hb dX1_init_22 rfl ?_
  refine lv_bipush (v := 20) hx hb dX1_init_23 (by decide) ?_
  refine lv_iconst (v := 0) hx hb dX1_init_25 (by decide) ?_
  refine mw_I (As := [.int 20, .int 0]) (rest := [.ref H1.size, .ref o]) S hD hGX hGa2 hSa2 (c_X6_init l G Ha2 H1.size 20 20 0 (by decide) (by decide) (by omega) (by omega) hza2 ha2) (fun q h => h.elim (fun e => Or.inr (by omega)) (fun h => Or.inr (by omega))) gX1_init_X6_init rfl ⟨rfl, rfl⟩ (hts (.initialized RX6) (by decide +kernel)) (hts (.methodLink RX1 11 yX6_init) (by decide +kernel)) (hts (.instanceMethod yX6_init) (by decide +kernel)) rfl nmX6_init ⟨Nat.le_of_ble_eq_true rfl, Nat.le_of_ble_eq_true rfl⟩ rfl hl.1 rfl (Nat.le_of_ble_eq_true rfl) ⟨Nat.le_of_ble_eq_true rfl, Nat.le_of_ble_eq_true rfl⟩ dX1_init_26 (fun Hb2 lb2 v2 hSb2 hsb2 hPb2 hGb2 => ?_)
  obtain ⟨hv2, hr2_1, hzb2, hqb2⟩ := hPb2
  subst hv2
  have kb2 : ∀ q : Nat, q < H1.size → Hb2[q]? = H1[q]? := fun q hq => (hqb2 q hq).trans (hxa2.2 q hq)
  have hob2 := va_at.kept ho1 (kb2 o (by omega))
  refine W.eq (g2 := F0 mZ 29 ls [.ref H1.size, .ref o]) rfl ?_
  refine mw_putF (ty := .object "MinimaRoom$Row") S hD hGb2 hSb2 (Or.inl rfl) iX1 tyX1 tyX1_ok nmX1 hob2 1 rfl (by decide) (hts (.fieldLink RX1 20 "MinimaRoom$Amendments" "froms" "LMinimaRoom$Row;") (by decide +kernel)) rfl hnm rfl (by decide +kernel) rfl rfl (Nat.le_of_ble_eq_true rfl) dX1_init_29 (fun H2 locs2 ho2 hzc2 hqc2 hS2 hG2 => ?_)
  rw [hz1] at ho2 hr2_1
  have ho2 : va_at G.1 vwCl (o, .inr (2, [.ref (o + 1), .ref (o + 3), .null, .int 0])) H2 := ho2
  have hz2 : H2.size = o + 5 := by omega
  have hr2_0 := rw1.kept hr1_0 ((hqc2 (o + 1) (by omega)).trans (kb2 (o + 1) (by omega))) ((hqc2 (o + 1 + 1) (by omega)).trans (kb2 (o + 1 + 1) (by omega)))
  have hr2_1 := rw1.kept hr2_1 (hqc2 (o + 3) (by omega)) (hqc2 (o + 3 + 1) (by omega))
  have hq2 : ∀ q : Nat, q < o → H2[q]? = H[q]? := fun q hq => (hqc2 q (by omega)).trans ((kb2 q (by omega)).trans (hq1 q hq))
  refine lv_aload_n hx hb dX1_init_32 rfl (lv_at hl 0 rfl) ?_
  refine mw_new (fs := [.null]) (ci := 7) S hG2 iX6 tyX6 tyX6_ok (hts (.classLink RX1 9 RX6) (by decide +kernel)) (hts (.instantiable RX6 1) (by decide +kernel)) (hts (.initialized RX6) (by decide +kernel)) rfl (fun j hj => match j, hj with | 0, _ => rfl | _ + 1, h => absurd h (by omega)) ⟨Nat.le_of_ble_eq_true rfl, Nat.le_of_ble_eq_true rfl⟩ dX1_init_33 (fun Ha3 ha3 hza3 hxa3 => ?_)
  have hGa3 := gk_ext hxa3 hG2
  have hSa3 := vs_new hS2 hxa3
  refine lv_dup hx hb dX1_init_36 rfl ?_
  refine lv_bipush (v := 20) hx hb dX1_init_37 (by decide) ?_
  refine lv_iconst (v := 0) hx hb dX1_init_39 (by decide) ?_
  refine mw_I (As := [.int 20, .int 0]) (rest := [.ref H2.size, .ref o]) S hD hGX hGa3 hSa3 (c_X6_init l G Ha3 H2.size 20 20 0 (by decide) (by decide) (by omega) (by omega) hza3 ha3) (fun q h => h.elim (fun e => Or.inr (by omega)) (fun h => Or.inr (by omega))) gX1_init_X6_init rfl ⟨rfl, rfl⟩ (hts (.initialized RX6) (by decide +kernel)) (hts (.methodLink RX1 11 yX6_init) (by decide +kernel)) (hts (.instanceMethod yX6_init) (by decide +kernel)) rfl nmX6_init ⟨Nat.le_of_ble_eq_true rfl, Nat.le_of_ble_eq_true rfl⟩ rfl hl.1 rfl (Nat.le_of_ble_eq_true rfl) ⟨Nat.le_of_ble_eq_true rfl, Nat.le_of_ble_eq_true rfl⟩ dX1_init_40 (fun Hb3 lb3 v3 hSb3 hsb3 hPb3 hGb3 => ?_)
  obtain ⟨hv3, hr3_2, hzb3, hqb3⟩ := hPb3
  subst hv3
  have kb3 : ∀ q : Nat, q < H2.size → Hb3[q]? = H2[q]? := fun q hq => (hqb3 q hq).trans (hxa3.2 q hq)
  have hob3 := va_at.kept ho2 (kb3 o (by omega))
  refine W.eq (g2 := F0 mZ 43 ls [.ref H2.size, .ref o]) rfl ?_
  refine mw_putF (ty := .object "MinimaRoom$Row") S hD hGb3 hSb3 (Or.inl rfl) iX1 tyX1 tyX1_ok nmX1 hob3 2 rfl (by decide) (hts (.fieldLink RX1 23 "MinimaRoom$Amendments" "heights" "LMinimaRoom$Row;") (by decide +kernel)) rfl hnm rfl (by decide +kernel) rfl rfl (Nat.le_of_ble_eq_true rfl) dX1_init_43 (fun H3 locs3 ho3 hzc3 hqc3 hS3 hG3 => ?_)
  rw [hz2] at ho3 hr3_2
  have ho3 : va_at G.1 vwCl (o, .inr (2, [.ref (o + 1), .ref (o + 3), .ref (o + 5), .int 0])) H3 := ho3
  have hz3 : H3.size = o + 7 := by omega
  have hr3_0 := rw1.kept hr2_0 ((hqc3 (o + 1) (by omega)).trans (kb3 (o + 1) (by omega))) ((hqc3 (o + 1 + 1) (by omega)).trans (kb3 (o + 1 + 1) (by omega)))
  have hr3_1 := rw1.kept hr2_1 ((hqc3 (o + 3) (by omega)).trans (kb3 (o + 3) (by omega))) ((hqc3 (o + 3 + 1) (by omega)).trans (kb3 (o + 3 + 1) (by omega)))
  have hr3_2 := rw1.kept hr3_2 (hqc3 (o + 5) (by omega)) (hqc3 (o + 5 + 1) (by omega))
  have hq3 : ∀ q : Nat, q < o → H3[q]? = H[q]? := fun q hq => (hqc3 q (by omega)).trans ((kb3 q (by omega)).trans (hq2 q hq))
  refine lv_aload_n hx hb dX1_init_46 rfl (lv_at hl 0 rfl) ?_
  refine lv_iconst (v := 0) hx hb dX1_init_47 (by decide) ?_
  refine mw_putf (ty := .int) S hD hG3 hS3 (Or.inl rfl) iX1 tyX1 tyX1_ok nmX1 ho3 3 rfl (by decide) (hts (.fieldLink RX1 26 "MinimaRoom$Amendments" "count" "I") (by decide +kernel)) rfl (by decide +kernel) rfl rfl (Nat.le_of_ble_eq_true rfl) dX1_init_48 (fun Hz lz hoz hzz hqz hSz hGz => ?_)
  exact mw_vret S hr hlk hSz ⟨Nat.le_of_ble_eq_true rfl, Nat.le_of_ble_eq_true rfl⟩ dX1_init_51 ⟨rfl, hoz, rw1.kept hr3_0 (hqz (o + 1) (by omega)) (hqz (o + 1 + 1) (by omega)), rw1.kept hr3_1 (hqz (o + 3) (by omega)) (hqz (o + 3 + 1) (by omega)), rw1.kept hr3_2 (hqz (o + 5) (by omega)) (hqz (o + 5 + 1) (by omega)), by omega, fun q hq => (hqz q (by omega)).trans (hq3 q hq)⟩
theorem nmX3_init : nmV yX3_init RX3 0 := by decide +kernel
set_option maxHeartbeats 2000000 in
theorem c_X3_init (l : Launch) (G : GT) (H : Heap) (o : Nat) (hz : G.2.2.1 ≤ H.size) (hzo : G.2.2.1 ≤ o) (hs : H.size = o + 1) (ho0 : va_at G.1 vwCl (o, .inr (4, [.null, .null, .null, .null, .null, .null, .int 0])) H) : MwV l G (DO o H.size) H yX3_init wsX3_init { frames := 2, cells := 12, slots := 126, locals := 35 } [.ref o] 12 126 (fun w t => w = none ∧ va_at G.1 vwCl (o, .inr (4, [.ref (o + 1), .ref (o + 3), .ref (o + 5), .ref (o + 7), .ref (o + 9), .ref (o + 11), .int 0])) t ∧ rw1 G t (o + 1) 16 (fun _ => 0) ∧ rw1 G t (o + 3) 16 (fun _ => 0) ∧ rw1 G t (o + 5) 16 (fun _ => 0) ∧ rw1 G t (o + 7) 16 (fun _ => 0) ∧ rw1 G t (o + 9) 16 (fun _ => 0) ∧ rw1 G t (o + 11) 16 (fun _ => (-1)) ∧ t.size = H.size + 12 ∧ ∀ q : Nat, q < o → t[q]? = H[q]?) := by
  refine mw_ofI (cc := cX3_init) (maxL := 1) (ret := none) (by decide) rfl (Nat.le_of_ble_eq_true rfl) ?_
  intro pZ eZ sZ mZ bZ meZ cZ ls S hr hlk hnm hl hHs hG0 hGX
  have S : CallFix pZ mZ cZ cX3_init 1 sZ _ wsX3_init RX3 := S
  have hx := S.1
  have hb := S.2.1
  have hown := S.2.2.2.1
  have hts := S.2.2.2.2
  have hl : lv_has ls 1 [(0, .ref o)] := hl
  have hD : DP G (DO o H.size) H.size := dp_o hzo hz
  have hS0 : va_S (DO o H.size) H H [] := va_S.rf
  have iX6 : ∀ w ∈ u_ws RX6 TX6 1, w ∈ wsX3_init := by decide +kernel
  have iX3 : ∀ w ∈ u_ws RX3 TX3 7, w ∈ wsX3_init := by decide +kernel
  refine lv_aload_n hx hb dX3_init_0 rfl (lv_at hl 0 rfl) ?_
  refine W.objInit hx hb hown (hts (.methodLink RX3 3 objectInit) (by decide +kernel)) (hts (.instanceMethod objectInit) (by decide +kernel)) (hts (.code objectInit ⟨#[0xb1]⟩ 1 none) (by decide +kernel)) rfl (hl.1.trans S.2.2.1.symm) rfl dX3_init_1 (Nat.le_of_ble_eq_true rfl) (Nat.le_of_ble_eq_true rfl) ?_
  refine W.eq (g2 := F0 mZ 4 ls []) rfl ?_
  have hz0 : H.size = o + 1 := hs
  have hq0 : ∀ q : Nat, q < o → H[q]? = H[q]? := fun _ _ => rfl
  refine lv_aload_n hx hb dX3_init_4 rfl (lv_at hl 0 rfl) ?_
  refine mw_new (fs := [.null]) (ci := 7) S hG0 iX6 tyX6 tyX6_ok (hts (.classLink RX3 9 RX6) (by decide +kernel)) (hts (.instantiable RX6 1) (by decide +kernel)) (hts (.initialized RX6) (by decide +kernel)) rfl (fun j hj => match j, hj with | 0, _ => rfl | _ + 1, h => absurd h (by omega)) ⟨Nat.le_of_ble_eq_true rfl, Nat.le_of_ble_eq_true rfl⟩ dX3_init_5 (fun Ha1 ha1 hza1 hxa1 => ?_)
  have hGa1 := gk_ext hxa1 hG0
  have hSa1 := vs_new hS0 hxa1
  refine lv_dup hx hb dX3_init_8 rfl ?_
  refine lv_bipush (v := 16) hx hb dX3_init_9 (by decide) ?_
  refine lv_iconst (v := 0) hx hb dX3_init_11 (by decide) ?_
  refine mw_I (As := [.int 16, .int 0]) (rest := [.ref H.size, .ref o]) S hD hGX hGa1 hSa1 (c_X6_init l G Ha1 H.size 16 16 0 (by decide) (by decide) (by omega) (by omega) hza1 ha1) (fun q h => h.elim (fun e => Or.inr (by omega)) (fun h => Or.inr (by omega))) gX3_init_X6_init rfl ⟨rfl, rfl⟩ (hts (.initialized RX6) (by decide +kernel)) (hts (.methodLink RX3 11 yX6_init) (by decide +kernel)) (hts (.instanceMethod yX6_init) (by decide +kernel)) rfl nmX6_init ⟨Nat.le_of_ble_eq_true rfl, Nat.le_of_ble_eq_true rfl⟩ rfl hl.1 rfl (Nat.le_of_ble_eq_true rfl) ⟨Nat.le_of_ble_eq_true rfl, Nat.le_of_ble_eq_true rfl⟩ dX3_init_12 (fun Hb1 lb1 v1 hSb1 hsb1 hPb1 hGb1 => ?_)
  obtain ⟨hv1, hr1_0, hzb1, hqb1⟩ := hPb1
  subst hv1
  have kb1 : ∀ q : Nat, q < H.size → Hb1[q]? = H[q]? := fun q hq => (hqb1 q hq).trans (hxa1.2 q hq)
  have hob1 := va_at.kept ho0 (kb1 o (by omega))
  refine W.eq (g2 := F0 mZ 15 ls [.ref H.size, .ref o]) rfl ?_
  refine mw_putF (ty := .object "MinimaRoom$Row") S hD hGb1 hSb1 (Or.inl rfl) iX3 tyX3 tyX3_ok nmX3 hob1 0 rfl (by decide) (hts (.fieldLink RX3 14 "MinimaRoom$Notices" "kinds" "LMinimaRoom$Row;") (by decide +kernel)) rfl hnm rfl (by decide +kernel) rfl rfl (Nat.le_of_ble_eq_true rfl) dX3_init_15 (fun H1 locs1 ho1 hzc1 hqc1 hS1 hG1 => ?_)
  rw [hz0] at ho1 hr1_0
  have ho1 : va_at G.1 vwCl (o, .inr (4, [.ref (o + 1), .null, .null, .null, .null, .null, .int 0])) H1 := ho1
  have hz1 : H1.size = o + 3 := by omega
  have hr1_0 := rw1.kept hr1_0 (hqc1 (o + 1) (by omega)) (hqc1 (o + 1 + 1) (by omega))
  have hq1 : ∀ q : Nat, q < o → H1[q]? = H[q]? := fun q hq => (hqc1 q (by omega)).trans ((kb1 q (by omega)).trans (hq0 q hq))
  refine lv_aload_n hx hb dX3_init_18 rfl (lv_at hl 0 rfl) ?_
  refine mw_new (fs := [.null]) (ci := 7) S hG1 iX6 tyX6 tyX6_ok (hts (.classLink RX3 9 RX6) (by decide +kernel)) (hts (.instantiable RX6 1) (by decide +kernel)) (hts (.initialized RX6) (by decide +kernel)) rfl (fun j hj => match j, hj with | 0, _ => rfl | _ + 1, h => absurd h (by omega)) ⟨Nat.le_of_ble_eq_true rfl, Nat.le_of_ble_eq_true rfl⟩ dX3_init_19 (fun Ha2 ha2 hza2 hxa2 => ?_)
  have hGa2 := gk_ext hxa2 hG1
  have hSa2 := vs_new hS1 hxa2
  refine lv_dup hx hb dX3_init_22 rfl ?_
  refine lv_bipush (v := 16) hx hb dX3_init_23 (by decide) ?_
  refine lv_iconst (v := 0) hx hb dX3_init_25 (by decide) ?_
  refine mw_I (As := [.int 16, .int 0]) (rest := [.ref H1.size, .ref o]) S hD hGX hGa2 hSa2 (c_X6_init l G Ha2 H1.size 16 16 0 (by decide) (by decide) (by omega) (by omega) hza2 ha2) (fun q h => h.elim (fun e => Or.inr (by omega)) (fun h => Or.inr (by omega))) gX3_init_X6_init rfl ⟨rfl, rfl⟩ (hts (.initialized RX6) (by decide +kernel)) (hts (.methodLink RX3 11 yX6_init) (by decide +kernel)) (hts (.instanceMethod yX6_init) (by decide +kernel)) rfl nmX6_init ⟨Nat.le_of_ble_eq_true rfl, Nat.le_of_ble_eq_true rfl⟩ rfl hl.1 rfl (Nat.le_of_ble_eq_true rfl) ⟨Nat.le_of_ble_eq_true rfl, Nat.le_of_ble_eq_true rfl⟩ dX3_init_26 (fun Hb2 lb2 v2 hSb2 hsb2 hPb2 hGb2 => ?_)
  obtain ⟨hv2, hr2_1, hzb2, hqb2⟩ := hPb2
  subst hv2
  have kb2 : ∀ q : Nat, q < H1.size → Hb2[q]? = H1[q]? := fun q hq => (hqb2 q hq).trans (hxa2.2 q hq)
  have hob2 := va_at.kept ho1 (kb2 o (by omega))
  refine W.eq (g2 := F0 mZ 29 ls [.ref H1.size, .ref o]) rfl ?_
  refine mw_putF (ty := .object "MinimaRoom$Row") S hD hGb2 hSb2 (Or.inl rfl) iX3 tyX3 tyX3_ok nmX3 hob2 1 rfl (by decide) (hts (.fieldLink RX3 20 "MinimaRoom$Notices" "subjects" "LMinimaRoom$Row;") (by decide +kernel)) rfl hnm rfl (by decide +kernel) rfl rfl (Nat.le_of_ble_eq_true rfl) dX3_init_29 (fun H2 locs2 ho2 hzc2 hqc2 hS2 hG2 => ?_)
  rw [hz1] at ho2 hr2_1
  have ho2 : va_at G.1 vwCl (o, .inr (4, [.ref (o + 1), .ref (o + 3), .null, .null, .null, .null, .int 0])) H2 := ho2
  have hz2 : H2.size = o + 5 := by omega
  have hr2_0 := rw1.kept hr1_0 ((hqc2 (o + 1) (by omega)).trans (kb2 (o + 1) (by omega))) ((hqc2 (o + 1 + 1) (by omega)).trans (kb2 (o + 1 + 1) (by omega)))
  have hr2_1 := rw1.kept hr2_1 (hqc2 (o + 3) (by omega)) (hqc2 (o + 3 + 1) (by omega))
  have hq2 : ∀ q : Nat, q < o → H2[q]? = H[q]? := fun q hq => (hqc2 q (by omega)).trans ((kb2 q (by omega)).trans (hq1 q hq))
  refine lv_aload_n hx hb dX3_init_32 rfl (lv_at hl 0 rfl) ?_
  refine mw_new (fs := [.null]) (ci := 7) S hG2 iX6 tyX6 tyX6_ok (hts (.classLink RX3 9 RX6) (by decide +kernel)) (hts (.instantiable RX6 1) (by decide +kernel)) (hts (.initialized RX6) (by decide +kernel)) rfl (fun j hj => match j, hj with | 0, _ => rfl | _ + 1, h => absurd h (by omega)) ⟨Nat.le_of_ble_eq_true rfl, Nat.le_of_ble_eq_true rfl⟩ dX3_init_33 (fun Ha3 ha3 hza3 hxa3 => ?_)
  have hGa3 := gk_ext hxa3 hG2
  have hSa3 := vs_new hS2 hxa3
  refine lv_dup hx hb dX3_init_36 rfl ?_
  refine lv_bipush (v := 16) hx hb dX3_init_37 (by decide) ?_
  refine lv_iconst (v := 0) hx hb dX3_init_39 (by decide) ?_
  refine mw_I (As := [.int 16, .int 0]) (rest := [.ref H2.size, .ref o]) S hD hGX hGa3 hSa3 (c_X6_init l G Ha3 H2.size 16 16 0 (by decide) (by decide) (by omega) (by omega) hza3 ha3) (fun q h => h.elim (fun e => Or.inr (by omega)) (fun h => Or.inr (by omega))) gX3_init_X6_init rfl ⟨rfl, rfl⟩ (hts (.initialized RX6) (by decide +kernel)) (hts (.methodLink RX3 11 yX6_init) (by decide +kernel)) (hts (.instanceMethod yX6_init) (by decide +kernel)) rfl nmX6_init ⟨Nat.le_of_ble_eq_true rfl, Nat.le_of_ble_eq_true rfl⟩ rfl hl.1 rfl (Nat.le_of_ble_eq_true rfl) ⟨Nat.le_of_ble_eq_true rfl, Nat.le_of_ble_eq_true rfl⟩ dX3_init_40 (fun Hb3 lb3 v3 hSb3 hsb3 hPb3 hGb3 => ?_)
  obtain ⟨hv3, hr3_2, hzb3, hqb3⟩ := hPb3
  subst hv3
  have kb3 : ∀ q : Nat, q < H2.size → Hb3[q]? = H2[q]? := fun q hq => (hqb3 q hq).trans (hxa3.2 q hq)
  have hob3 := va_at.kept ho2 (kb3 o (by omega))
  refine W.eq (g2 := F0 mZ 43 ls [.ref H2.size, .ref o]) rfl ?_
  refine mw_putF (ty := .object "MinimaRoom$Row") S hD hGb3 hSb3 (Or.inl rfl) iX3 tyX3 tyX3_ok nmX3 hob3 2 rfl (by decide) (hts (.fieldLink RX3 23 "MinimaRoom$Notices" "raises" "LMinimaRoom$Row;") (by decide +kernel)) rfl hnm rfl (by decide +kernel) rfl rfl (Nat.le_of_ble_eq_true rfl) dX3_init_43 (fun H3 locs3 ho3 hzc3 hqc3 hS3 hG3 => ?_)
  rw [hz2] at ho3 hr3_2
  have ho3 : va_at G.1 vwCl (o, .inr (4, [.ref (o + 1), .ref (o + 3), .ref (o + 5), .null, .null, .null, .int 0])) H3 := ho3
  have hz3 : H3.size = o + 7 := by omega
  have hr3_0 := rw1.kept hr2_0 ((hqc3 (o + 1) (by omega)).trans (kb3 (o + 1) (by omega))) ((hqc3 (o + 1 + 1) (by omega)).trans (kb3 (o + 1 + 1) (by omega)))
  have hr3_1 := rw1.kept hr2_1 ((hqc3 (o + 3) (by omega)).trans (kb3 (o + 3) (by omega))) ((hqc3 (o + 3 + 1) (by omega)).trans (kb3 (o + 3 + 1) (by omega)))
  have hr3_2 := rw1.kept hr3_2 (hqc3 (o + 5) (by omega)) (hqc3 (o + 5 + 1) (by omega))
  have hq3 : ∀ q : Nat, q < o → H3[q]? = H[q]? := fun q hq => (hqc3 q (by omega)).trans ((kb3 q (by omega)).trans (hq2 q hq))
  refine lv_aload_n hx hb dX3_init_46 rfl (lv_at hl 0 rfl) ?_
  refine mw_new (fs := [.null]) (ci := 7) S hG3 iX6 tyX6 tyX6_ok (hts (.classLink RX3 9 RX6) (by decide +kernel)) (hts (.instantiable RX6 1) (by decide +kernel)) (hts (.initialized RX6) (by decide +kernel)) rfl (fun j hj => match j, hj with | 0, _ => rfl | _ + 1, h => absurd h (by omega)) ⟨Nat.le_of_ble_eq_true rfl, Nat.le_of_ble_eq_true rfl⟩ dX3_init_47 (fun Ha4 ha4 hza4 hxa4 => ?_)
  have hGa4 := gk_ext hxa4 hG3
  have hSa4 := vs_new hS3 hxa4
  refine lv_dup hx hb dX3_init_50 rfl ?_
  refine lv_bipush (v := 16) hx hb dX3_init_51 (by decide) ?_
  refine lv_iconst (v := 0) hx hb dX3_init_53 (by decide) ?_
  refine mw_I (As := [.int 16, .int 0]) (rest := [.ref H3.size, .ref o]) S hD hGX hGa4 hSa4 (c_X6_init l G Ha4 H3.size 16 16 0 (by decide) (by decide) (by omega) (by omega) hza4 ha4) (fun q h => h.elim (fun e => Or.inr (by omega)) (fun h => Or.inr (by omega))) gX3_init_X6_init rfl ⟨rfl, rfl⟩ (hts (.initialized RX6) (by decide +kernel)) (hts (.methodLink RX3 11 yX6_init) (by decide +kernel)) (hts (.instanceMethod yX6_init) (by decide +kernel)) rfl nmX6_init ⟨Nat.le_of_ble_eq_true rfl, Nat.le_of_ble_eq_true rfl⟩ rfl hl.1 rfl (Nat.le_of_ble_eq_true rfl) ⟨Nat.le_of_ble_eq_true rfl, Nat.le_of_ble_eq_true rfl⟩ dX3_init_54 (fun Hb4 lb4 v4 hSb4 hsb4 hPb4 hGb4 => ?_)
  obtain ⟨hv4, hr4_3, hzb4, hqb4⟩ := hPb4
  subst hv4
  have kb4 : ∀ q : Nat, q < H3.size → Hb4[q]? = H3[q]? := fun q hq => (hqb4 q hq).trans (hxa4.2 q hq)
  have hob4 := va_at.kept ho3 (kb4 o (by omega))
  refine W.eq (g2 := F0 mZ 57 ls [.ref H3.size, .ref o]) rfl ?_
  refine mw_putF (ty := .object "MinimaRoom$Row") S hD hGb4 hSb4 (Or.inl rfl) iX3 tyX3 tyX3_ok nmX3 hob4 3 rfl (by decide) (hts (.fieldLink RX3 26 "MinimaRoom$Notices" "froms" "LMinimaRoom$Row;") (by decide +kernel)) rfl hnm rfl (by decide +kernel) rfl rfl (Nat.le_of_ble_eq_true rfl) dX3_init_57 (fun H4 locs4 ho4 hzc4 hqc4 hS4 hG4 => ?_)
  rw [hz3] at ho4 hr4_3
  have ho4 : va_at G.1 vwCl (o, .inr (4, [.ref (o + 1), .ref (o + 3), .ref (o + 5), .ref (o + 7), .null, .null, .int 0])) H4 := ho4
  have hz4 : H4.size = o + 9 := by omega
  have hr4_0 := rw1.kept hr3_0 ((hqc4 (o + 1) (by omega)).trans (kb4 (o + 1) (by omega))) ((hqc4 (o + 1 + 1) (by omega)).trans (kb4 (o + 1 + 1) (by omega)))
  have hr4_1 := rw1.kept hr3_1 ((hqc4 (o + 3) (by omega)).trans (kb4 (o + 3) (by omega))) ((hqc4 (o + 3 + 1) (by omega)).trans (kb4 (o + 3 + 1) (by omega)))
  have hr4_2 := rw1.kept hr3_2 ((hqc4 (o + 5) (by omega)).trans (kb4 (o + 5) (by omega))) ((hqc4 (o + 5 + 1) (by omega)).trans (kb4 (o + 5 + 1) (by omega)))
  have hr4_3 := rw1.kept hr4_3 (hqc4 (o + 7) (by omega)) (hqc4 (o + 7 + 1) (by omega))
  have hq4 : ∀ q : Nat, q < o → H4[q]? = H[q]? := fun q hq => (hqc4 q (by omega)).trans ((kb4 q (by omega)).trans (hq3 q hq))
  refine lv_aload_n hx hb dX3_init_60 rfl (lv_at hl 0 rfl) ?_
  refine mw_new (fs := [.null]) (ci := 7) S hG4 iX6 tyX6 tyX6_ok (hts (.classLink RX3 9 RX6) (by decide +kernel)) (hts (.instantiable RX6 1) (by decide +kernel)) (hts (.initialized RX6) (by decide +kernel)) rfl (fun j hj => match j, hj with | 0, _ => rfl | _ + 1, h => absurd h (by omega)) ⟨Nat.le_of_ble_eq_true rfl, Nat.le_of_ble_eq_true rfl⟩ dX3_init_61 (fun Ha5 ha5 hza5 hxa5 => ?_)
  have hGa5 := gk_ext hxa5 hG4
  have hSa5 := vs_new hS4 hxa5
  refine lv_dup hx hb dX3_init_64 rfl ?_
  refine lv_bipush (v := 16) hx hb dX3_init_65 (by decide) ?_
  refine lv_iconst (v := 0) hx hb dX3_init_67 (by decide) ?_
  refine mw_I (As := [.int 16, .int 0]) (rest := [.ref H4.size, .ref o]) S hD hGX hGa5 hSa5 (c_X6_init l G Ha5 H4.size 16 16 0 (by decide) (by decide) (by omega) (by omega) hza5 ha5) (fun q h => h.elim (fun e => Or.inr (by omega)) (fun h => Or.inr (by omega))) gX3_init_X6_init rfl ⟨rfl, rfl⟩ (hts (.initialized RX6) (by decide +kernel)) (hts (.methodLink RX3 11 yX6_init) (by decide +kernel)) (hts (.instanceMethod yX6_init) (by decide +kernel)) rfl nmX6_init ⟨Nat.le_of_ble_eq_true rfl, Nat.le_of_ble_eq_true rfl⟩ rfl hl.1 rfl (Nat.le_of_ble_eq_true rfl) ⟨Nat.le_of_ble_eq_true rfl, Nat.le_of_ble_eq_true rfl⟩ dX3_init_68 (fun Hb5 lb5 v5 hSb5 hsb5 hPb5 hGb5 => ?_)
  obtain ⟨hv5, hr5_4, hzb5, hqb5⟩ := hPb5
  subst hv5
  have kb5 : ∀ q : Nat, q < H4.size → Hb5[q]? = H4[q]? := fun q hq => (hqb5 q hq).trans (hxa5.2 q hq)
  have hob5 := va_at.kept ho4 (kb5 o (by omega))
  refine W.eq (g2 := F0 mZ 71 ls [.ref H4.size, .ref o]) rfl ?_
  refine mw_putF (ty := .object "MinimaRoom$Row") S hD hGb5 hSb5 (Or.inl rfl) iX3 tyX3 tyX3_ok nmX3 hob5 4 rfl (by decide) (hts (.fieldLink RX3 29 "MinimaRoom$Notices" "tos" "LMinimaRoom$Row;") (by decide +kernel)) rfl hnm rfl (by decide +kernel) rfl rfl (Nat.le_of_ble_eq_true rfl) dX3_init_71 (fun H5 locs5 ho5 hzc5 hqc5 hS5 hG5 => ?_)
  rw [hz4] at ho5 hr5_4
  have ho5 : va_at G.1 vwCl (o, .inr (4, [.ref (o + 1), .ref (o + 3), .ref (o + 5), .ref (o + 7), .ref (o + 9), .null, .int 0])) H5 := ho5
  have hz5 : H5.size = o + 11 := by omega
  have hr5_0 := rw1.kept hr4_0 ((hqc5 (o + 1) (by omega)).trans (kb5 (o + 1) (by omega))) ((hqc5 (o + 1 + 1) (by omega)).trans (kb5 (o + 1 + 1) (by omega)))
  have hr5_1 := rw1.kept hr4_1 ((hqc5 (o + 3) (by omega)).trans (kb5 (o + 3) (by omega))) ((hqc5 (o + 3 + 1) (by omega)).trans (kb5 (o + 3 + 1) (by omega)))
  have hr5_2 := rw1.kept hr4_2 ((hqc5 (o + 5) (by omega)).trans (kb5 (o + 5) (by omega))) ((hqc5 (o + 5 + 1) (by omega)).trans (kb5 (o + 5 + 1) (by omega)))
  have hr5_3 := rw1.kept hr4_3 ((hqc5 (o + 7) (by omega)).trans (kb5 (o + 7) (by omega))) ((hqc5 (o + 7 + 1) (by omega)).trans (kb5 (o + 7 + 1) (by omega)))
  have hr5_4 := rw1.kept hr5_4 (hqc5 (o + 9) (by omega)) (hqc5 (o + 9 + 1) (by omega))
  have hq5 : ∀ q : Nat, q < o → H5[q]? = H[q]? := fun q hq => (hqc5 q (by omega)).trans ((kb5 q (by omega)).trans (hq4 q hq))
  refine lv_aload_n hx hb dX3_init_74 rfl (lv_at hl 0 rfl) ?_
  refine mw_new (fs := [.null]) (ci := 7) S hG5 iX6 tyX6 tyX6_ok (hts (.classLink RX3 9 RX6) (by decide +kernel)) (hts (.instantiable RX6 1) (by decide +kernel)) (hts (.initialized RX6) (by decide +kernel)) rfl (fun j hj => match j, hj with | 0, _ => rfl | _ + 1, h => absurd h (by omega)) ⟨Nat.le_of_ble_eq_true rfl, Nat.le_of_ble_eq_true rfl⟩ dX3_init_75 (fun Ha6 ha6 hza6 hxa6 => ?_)
  have hGa6 := gk_ext hxa6 hG5
  have hSa6 := vs_new hS5 hxa6
  refine lv_dup hx hb dX3_init_78 rfl ?_
  refine lv_bipush (v := 16) hx hb dX3_init_79 (by decide) ?_
  refine lv_iconst (v := (-1)) hx hb dX3_init_81 (by decide) ?_
  refine mw_I (As := [.int 16, .int (-1)]) (rest := [.ref H5.size, .ref o]) S hD hGX hGa6 hSa6 (c_X6_init l G Ha6 H5.size 16 16 (-1) (by decide) (by decide) (by omega) (by omega) hza6 ha6) (fun q h => h.elim (fun e => Or.inr (by omega)) (fun h => Or.inr (by omega))) gX3_init_X6_init rfl ⟨rfl, rfl⟩ (hts (.initialized RX6) (by decide +kernel)) (hts (.methodLink RX3 11 yX6_init) (by decide +kernel)) (hts (.instanceMethod yX6_init) (by decide +kernel)) rfl nmX6_init ⟨Nat.le_of_ble_eq_true rfl, Nat.le_of_ble_eq_true rfl⟩ rfl hl.1 rfl (Nat.le_of_ble_eq_true rfl) ⟨Nat.le_of_ble_eq_true rfl, Nat.le_of_ble_eq_true rfl⟩ dX3_init_82 (fun Hb6 lb6 v6 hSb6 hsb6 hPb6 hGb6 => ?_)
  obtain ⟨hv6, hr6_5, hzb6, hqb6⟩ := hPb6
  subst hv6
  have kb6 : ∀ q : Nat, q < H5.size → Hb6[q]? = H5[q]? := fun q hq => (hqb6 q hq).trans (hxa6.2 q hq)
  have hob6 := va_at.kept ho5 (kb6 o (by omega))
  refine W.eq (g2 := F0 mZ 85 ls [.ref H5.size, .ref o]) rfl ?_
  refine mw_putF (ty := .object "MinimaRoom$Row") S hD hGb6 hSb6 (Or.inl rfl) iX3 tyX3 tyX3_ok nmX3 hob6 5 rfl (by decide) (hts (.fieldLink RX3 32 "MinimaRoom$Notices" "cancels" "LMinimaRoom$Row;") (by decide +kernel)) rfl hnm rfl (by decide +kernel) rfl rfl (Nat.le_of_ble_eq_true rfl) dX3_init_85 (fun H6 locs6 ho6 hzc6 hqc6 hS6 hG6 => ?_)
  rw [hz5] at ho6 hr6_5
  have ho6 : va_at G.1 vwCl (o, .inr (4, [.ref (o + 1), .ref (o + 3), .ref (o + 5), .ref (o + 7), .ref (o + 9), .ref (o + 11), .int 0])) H6 := ho6
  have hz6 : H6.size = o + 13 := by omega
  have hr6_0 := rw1.kept hr5_0 ((hqc6 (o + 1) (by omega)).trans (kb6 (o + 1) (by omega))) ((hqc6 (o + 1 + 1) (by omega)).trans (kb6 (o + 1 + 1) (by omega)))
  have hr6_1 := rw1.kept hr5_1 ((hqc6 (o + 3) (by omega)).trans (kb6 (o + 3) (by omega))) ((hqc6 (o + 3 + 1) (by omega)).trans (kb6 (o + 3 + 1) (by omega)))
  have hr6_2 := rw1.kept hr5_2 ((hqc6 (o + 5) (by omega)).trans (kb6 (o + 5) (by omega))) ((hqc6 (o + 5 + 1) (by omega)).trans (kb6 (o + 5 + 1) (by omega)))
  have hr6_3 := rw1.kept hr5_3 ((hqc6 (o + 7) (by omega)).trans (kb6 (o + 7) (by omega))) ((hqc6 (o + 7 + 1) (by omega)).trans (kb6 (o + 7 + 1) (by omega)))
  have hr6_4 := rw1.kept hr5_4 ((hqc6 (o + 9) (by omega)).trans (kb6 (o + 9) (by omega))) ((hqc6 (o + 9 + 1) (by omega)).trans (kb6 (o + 9 + 1) (by omega)))
  have hr6_5 := rw1.kept hr6_5 (hqc6 (o + 11) (by omega)) (hqc6 (o + 11 + 1) (by omega))
  have hq6 : ∀ q : Nat, q < o → H6[q]? = H[q]? := fun q hq => (hqc6 q (by omega)).trans ((kb6 q (by omega)).trans (hq5 q hq))
  refine lv_aload_n hx hb dX3_init_88 rfl (lv_at hl 0 rfl) ?_
  refine lv_iconst (v := 0) hx hb dX3_init_89 (by decide) ?_
  refine mw_putf (ty := .int) S hD hG6 hS6 (Or.inl rfl) iX3 tyX3 tyX3_ok nmX3 ho6 6 rfl (by decide) (hts (.fieldLink RX3 35 "MinimaRoom$Notices" "count" "I") (by decide +kernel)) rfl (by decide +kernel) rfl rfl (Nat.le_of_ble_eq_true rfl) dX3_init_90 (fun Hz lz hoz hzz hqz hSz hGz => ?_)
  exact mw_vret S hr hlk hSz ⟨Nat.le_of_ble_eq_true rfl, Nat.le_of_ble_eq_true rfl⟩ dX3_init_93 ⟨rfl, hoz, rw1.kept hr6_0 (hqz (o + 1) (by omega)) (hqz (o + 1 + 1) (by omega)), rw1.kept hr6_1 (hqz (o + 3) (by omega)) (hqz (o + 3 + 1) (by omega)), rw1.kept hr6_2 (hqz (o + 5) (by omega)) (hqz (o + 5 + 1) (by omega)), rw1.kept hr6_3 (hqz (o + 7) (by omega)) (hqz (o + 7 + 1) (by omega)), rw1.kept hr6_4 (hqz (o + 9) (by omega)) (hqz (o + 9 + 1) (by omega)), rw1.kept hr6_5 (hqz (o + 11) (by omega)) (hqz (o + 11 + 1) (by omega)), by omega, fun q hq => (hqz q (by omega)).trans (hq6 q hq)⟩
theorem nmX2_init : nmV yX2_init RX2 0 := by decide +kernel
set_option maxHeartbeats 2000000 in
theorem c_X2_init (l : Launch) (G : GT) (H : Heap) (o : Nat) (hz : G.2.2.1 ≤ H.size) (hzo : G.2.2.1 ≤ o) (hs : H.size = o + 1) (ho0 : va_at G.1 vwCl (o, .inr (3, [.null, .null])) H) : MwV l G (DO o H.size) H yX2_init wsX2_init { frames := 2, cells := 4, slots := 42, locals := 35 } [.ref o] 4 42 (fun w t => w = none ∧ va_at G.1 vwCl (o, .inr (3, [.ref (o + 1), .ref (o + 3)])) t ∧ rw1 G t (o + 1) 4 (fun _ => (-1)) ∧ rw1 G t (o + 3) 4 (fun _ => 0) ∧ t.size = H.size + 4 ∧ ∀ q : Nat, q < o → t[q]? = H[q]?) := by
  refine mw_ofI (cc := cX2_init) (maxL := 1) (ret := none) (by decide) rfl (Nat.le_of_ble_eq_true rfl) ?_
  intro pZ eZ sZ mZ bZ meZ cZ ls S hr hlk hnm hl hHs hG0 hGX
  have S : CallFix pZ mZ cZ cX2_init 1 sZ _ wsX2_init RX2 := S
  have hx := S.1
  have hb := S.2.1
  have hown := S.2.2.2.1
  have hts := S.2.2.2.2
  have hl : lv_has ls 1 [(0, .ref o)] := hl
  have hD : DP G (DO o H.size) H.size := dp_o hzo hz
  have hS0 : va_S (DO o H.size) H H [] := va_S.rf
  have iX6 : ∀ w ∈ u_ws RX6 TX6 1, w ∈ wsX2_init := by decide +kernel
  have iX2 : ∀ w ∈ u_ws RX2 TX2 2, w ∈ wsX2_init := by decide +kernel
  refine lv_aload_n hx hb dX2_init_0 rfl (lv_at hl 0 rfl) ?_
  refine W.objInit hx hb hown (hts (.methodLink RX2 3 objectInit) (by decide +kernel)) (hts (.instanceMethod objectInit) (by decide +kernel)) (hts (.code objectInit ⟨#[0xb1]⟩ 1 none) (by decide +kernel)) rfl (hl.1.trans S.2.2.1.symm) rfl dX2_init_1 (Nat.le_of_ble_eq_true rfl) (Nat.le_of_ble_eq_true rfl) ?_
  refine W.eq (g2 := F0 mZ 4 ls []) rfl ?_
  have hz0 : H.size = o + 1 := hs
  have hq0 : ∀ q : Nat, q < o → H[q]? = H[q]? := fun _ _ => rfl
  refine lv_aload_n hx hb dX2_init_4 rfl (lv_at hl 0 rfl) ?_
  refine mw_new (fs := [.null]) (ci := 7) S hG0 iX6 tyX6 tyX6_ok (hts (.classLink RX2 9 RX6) (by decide +kernel)) (hts (.instantiable RX6 1) (by decide +kernel)) (hts (.initialized RX6) (by decide +kernel)) rfl (fun j hj => match j, hj with | 0, _ => rfl | _ + 1, h => absurd h (by omega)) ⟨Nat.le_of_ble_eq_true rfl, Nat.le_of_ble_eq_true rfl⟩ dX2_init_5 (fun Ha1 ha1 hza1 hxa1 => ?_)
  have hGa1 := gk_ext hxa1 hG0
  have hSa1 := vs_new hS0 hxa1
  refine lv_dup hx hb dX2_init_8 rfl ?_
  refine lv_iconst (v := 4) hx hb dX2_init_9 (by decide) ?_
  refine lv_iconst (v := (-1)) hx hb dX2_init_10 (by decide) ?_
  refine mw_I (As := [.int 4, .int (-1)]) (rest := [.ref H.size, .ref o]) S hD hGX hGa1 hSa1 (c_X6_init l G Ha1 H.size 4 4 (-1) (by decide) (by decide) (by omega) (by omega) hza1 ha1) (fun q h => h.elim (fun e => Or.inr (by omega)) (fun h => Or.inr (by omega))) gX2_init_X6_init rfl ⟨rfl, rfl⟩ (hts (.initialized RX6) (by decide +kernel)) (hts (.methodLink RX2 11 yX6_init) (by decide +kernel)) (hts (.instanceMethod yX6_init) (by decide +kernel)) rfl nmX6_init ⟨Nat.le_of_ble_eq_true rfl, Nat.le_of_ble_eq_true rfl⟩ rfl hl.1 rfl (Nat.le_of_ble_eq_true rfl) ⟨Nat.le_of_ble_eq_true rfl, Nat.le_of_ble_eq_true rfl⟩ dX2_init_11 (fun Hb1 lb1 v1 hSb1 hsb1 hPb1 hGb1 => ?_)
  obtain ⟨hv1, hr1_0, hzb1, hqb1⟩ := hPb1
  subst hv1
  have kb1 : ∀ q : Nat, q < H.size → Hb1[q]? = H[q]? := fun q hq => (hqb1 q hq).trans (hxa1.2 q hq)
  have hob1 := va_at.kept ho0 (kb1 o (by omega))
  refine W.eq (g2 := F0 mZ 14 ls [.ref H.size, .ref o]) rfl ?_
  refine mw_putF (ty := .object "MinimaRoom$Row") S hD hGb1 hSb1 (Or.inl rfl) iX2 tyX2 tyX2_ok nmX2 hob1 0 rfl (by decide) (hts (.fieldLink RX2 14 "MinimaRoom$Crews" "loadedOn" "LMinimaRoom$Row;") (by decide +kernel)) rfl hnm rfl (by decide +kernel) rfl rfl (Nat.le_of_ble_eq_true rfl) dX2_init_14 (fun H1 locs1 ho1 hzc1 hqc1 hS1 hG1 => ?_)
  rw [hz0] at ho1 hr1_0
  have ho1 : va_at G.1 vwCl (o, .inr (3, [.ref (o + 1), .null])) H1 := ho1
  have hz1 : H1.size = o + 3 := by omega
  have hr1_0 := rw1.kept hr1_0 (hqc1 (o + 1) (by omega)) (hqc1 (o + 1 + 1) (by omega))
  have hq1 : ∀ q : Nat, q < o → H1[q]? = H[q]? := fun q hq => (hqc1 q (by omega)).trans ((kb1 q (by omega)).trans (hq0 q hq))
  refine lv_aload_n hx hb dX2_init_17 rfl (lv_at hl 0 rfl) ?_
  refine mw_new (fs := [.null]) (ci := 7) S hG1 iX6 tyX6 tyX6_ok (hts (.classLink RX2 9 RX6) (by decide +kernel)) (hts (.instantiable RX6 1) (by decide +kernel)) (hts (.initialized RX6) (by decide +kernel)) rfl (fun j hj => match j, hj with | 0, _ => rfl | _ + 1, h => absurd h (by omega)) ⟨Nat.le_of_ble_eq_true rfl, Nat.le_of_ble_eq_true rfl⟩ dX2_init_18 (fun Ha2 ha2 hza2 hxa2 => ?_)
  have hGa2 := gk_ext hxa2 hG1
  have hSa2 := vs_new hS1 hxa2
  refine lv_dup hx hb dX2_init_21 rfl ?_
  refine lv_iconst (v := 4) hx hb dX2_init_22 (by decide) ?_
  refine lv_iconst (v := 0) hx hb dX2_init_23 (by decide) ?_
  refine mw_I (As := [.int 4, .int 0]) (rest := [.ref H1.size, .ref o]) S hD hGX hGa2 hSa2 (c_X6_init l G Ha2 H1.size 4 4 0 (by decide) (by decide) (by omega) (by omega) hza2 ha2) (fun q h => h.elim (fun e => Or.inr (by omega)) (fun h => Or.inr (by omega))) gX2_init_X6_init rfl ⟨rfl, rfl⟩ (hts (.initialized RX6) (by decide +kernel)) (hts (.methodLink RX2 11 yX6_init) (by decide +kernel)) (hts (.instanceMethod yX6_init) (by decide +kernel)) rfl nmX6_init ⟨Nat.le_of_ble_eq_true rfl, Nat.le_of_ble_eq_true rfl⟩ rfl hl.1 rfl (Nat.le_of_ble_eq_true rfl) ⟨Nat.le_of_ble_eq_true rfl, Nat.le_of_ble_eq_true rfl⟩ dX2_init_24 (fun Hb2 lb2 v2 hSb2 hsb2 hPb2 hGb2 => ?_)
  obtain ⟨hv2, hr2_1, hzb2, hqb2⟩ := hPb2
  subst hv2
  have kb2 : ∀ q : Nat, q < H1.size → Hb2[q]? = H1[q]? := fun q hq => (hqb2 q hq).trans (hxa2.2 q hq)
  have hob2 := va_at.kept ho1 (kb2 o (by omega))
  refine W.eq (g2 := F0 mZ 27 ls [.ref H1.size, .ref o]) rfl ?_
  refine mw_putF (ty := .object "MinimaRoom$Row") S hD hGb2 hSb2 (Or.inl rfl) iX2 tyX2 tyX2_ok nmX2 hob2 1 rfl (by decide) (hts (.fieldLink RX2 20 "MinimaRoom$Crews" "noticesRead" "LMinimaRoom$Row;") (by decide +kernel)) rfl hnm rfl (by decide +kernel) rfl rfl (Nat.le_of_ble_eq_true rfl) dX2_init_27 (fun H2 locs2 ho2 hzc2 hqc2 hS2 hG2 => ?_)
  rw [hz1] at ho2 hr2_1
  have ho2 : va_at G.1 vwCl (o, .inr (3, [.ref (o + 1), .ref (o + 3)])) H2 := ho2
  have hz2 : H2.size = o + 5 := by omega
  have hr2_0 := rw1.kept hr1_0 ((hqc2 (o + 1) (by omega)).trans (kb2 (o + 1) (by omega))) ((hqc2 (o + 1 + 1) (by omega)).trans (kb2 (o + 1 + 1) (by omega)))
  have hr2_1 := rw1.kept hr2_1 (hqc2 (o + 3) (by omega)) (hqc2 (o + 3 + 1) (by omega))
  have hq2 : ∀ q : Nat, q < o → H2[q]? = H[q]? := fun q hq => (hqc2 q (by omega)).trans ((kb2 q (by omega)).trans (hq1 q hq))
  exact mw_vret S hr hlk hS2 ⟨Nat.le_of_ble_eq_true rfl, Nat.le_of_ble_eq_true rfl⟩ dX2_init_30 ⟨rfl, ho2, hr2_0, hr2_1, by omega, hq2⟩
theorem nmX0_init : nmV yX0_init RX0 0 := by decide +kernel
set_option maxHeartbeats 2000000 in
theorem c_X0_init (l : Launch) (G : GT) (H : Heap) (o : Nat) (hz : G.2.2.1 ≤ H.size) (hzo : G.2.2.1 ≤ o) (hs : H.size = o + 1) (ho0 : va_at G.1 vwCl (o, .inr (1, [.null, .null])) H) : MwV l G (DO o H.size) H yX0_init wsX0_init { frames := 2, cells := 4, slots := 42, locals := 35 } [.ref o] 4 42 (fun w t => w = none ∧ va_at G.1 vwCl (o, .inr (1, [.ref (o + 1), .ref (o + 3)])) t ∧ rw1 G t (o + 1) 3 (fun j => nI j) ∧ rw1 G t (o + 3) 3 (fun _ => 27) ∧ t.size = H.size + 4 ∧ ∀ q : Nat, q < o → t[q]? = H[q]?) := by
  refine mw_ofI (cc := cX0_init) (maxL := 2) (ret := none) (by decide) rfl (Nat.le_of_ble_eq_true rfl) ?_
  intro pZ eZ sZ mZ bZ meZ cZ ls S hr hlk hnm hl hHs hG0 hGX
  have S : CallFix pZ mZ cZ cX0_init 2 sZ _ wsX0_init RX0 := S
  have hx := S.1
  have hb := S.2.1
  have hown := S.2.2.2.1
  have hts := S.2.2.2.2
  have hl : lv_has ls 2 [(0, .ref o)] := hl
  have hD : DP G (DO o H.size) H.size := dp_o hzo hz
  have hS0 : va_S (DO o H.size) H H [] := va_S.rf
  have iX6 : ∀ w ∈ u_ws RX6 TX6 1, w ∈ wsX0_init := by decide +kernel
  have iX0 : ∀ w ∈ u_ws RX0 TX0 2, w ∈ wsX0_init := by decide +kernel
  refine lv_aload_n hx hb dX0_init_0 rfl (lv_at hl 0 rfl) ?_
  refine W.objInit hx hb hown (hts (.methodLink RX0 3 objectInit) (by decide +kernel)) (hts (.instanceMethod objectInit) (by decide +kernel)) (hts (.code objectInit ⟨#[0xb1]⟩ 1 none) (by decide +kernel)) rfl (hl.1.trans S.2.2.1.symm) rfl dX0_init_1 (Nat.le_of_ble_eq_true rfl) (Nat.le_of_ble_eq_true rfl) ?_
  refine W.eq (g2 := F0 mZ 4 ls []) rfl ?_
  have hz0 : H.size = o + 1 := hs
  have hq0 : ∀ q : Nat, q < o → H[q]? = H[q]? := fun _ _ => rfl
  refine lv_aload_n hx hb dX0_init_4 rfl (lv_at hl 0 rfl) ?_
  refine mw_new (fs := [.null]) (ci := 7) S hG0 iX6 tyX6 tyX6_ok (hts (.classLink RX0 9 RX6) (by decide +kernel)) (hts (.instantiable RX6 1) (by decide +kernel)) (hts (.initialized RX6) (by decide +kernel)) rfl (fun j hj => match j, hj with | 0, _ => rfl | _ + 1, h => absurd h (by omega)) ⟨Nat.le_of_ble_eq_true rfl, Nat.le_of_ble_eq_true rfl⟩ dX0_init_5 (fun Ha1 ha1 hza1 hxa1 => ?_)
  have hGa1 := gk_ext hxa1 hG0
  have hSa1 := vs_new hS0 hxa1
  refine lv_dup hx hb dX0_init_8 rfl ?_
  refine lv_iconst (v := 3) hx hb dX0_init_9 (by decide) ?_
  refine lv_iconst (v := 0) hx hb dX0_init_10 (by decide) ?_
  refine mw_I (As := [.int 3, .int 0]) (rest := [.ref H.size, .ref o]) S hD hGX hGa1 hSa1 (c_X6_init l G Ha1 H.size 3 3 0 (by decide) (by decide) (by omega) (by omega) hza1 ha1) (fun q h => h.elim (fun e => Or.inr (by omega)) (fun h => Or.inr (by omega))) gX0_init_X6_init rfl ⟨rfl, rfl⟩ (hts (.initialized RX6) (by decide +kernel)) (hts (.methodLink RX0 11 yX6_init) (by decide +kernel)) (hts (.instanceMethod yX6_init) (by decide +kernel)) rfl nmX6_init ⟨Nat.le_of_ble_eq_true rfl, Nat.le_of_ble_eq_true rfl⟩ rfl hl.1 rfl (Nat.le_of_ble_eq_true rfl) ⟨Nat.le_of_ble_eq_true rfl, Nat.le_of_ble_eq_true rfl⟩ dX0_init_11 (fun Hb1 lb1 v1 hSb1 hsb1 hPb1 hGb1 => ?_)
  obtain ⟨hv1, hr1_0, hzb1, hqb1⟩ := hPb1
  subst hv1
  have kb1 : ∀ q : Nat, q < H.size → Hb1[q]? = H[q]? := fun q hq => (hqb1 q hq).trans (hxa1.2 q hq)
  have hob1 := va_at.kept ho0 (kb1 o (by omega))
  refine W.eq (g2 := F0 mZ 14 ls [.ref H.size, .ref o]) rfl ?_
  refine mw_putF (ty := .object "MinimaRoom$Row") S hD hGb1 hSb1 (Or.inl rfl) iX0 tyX0 tyX0_ok nmX0 hob1 0 rfl (by decide) (hts (.fieldLink RX0 14 "MinimaRoom$Aids" "kinds" "LMinimaRoom$Row;") (by decide +kernel)) rfl hnm rfl (by decide +kernel) rfl rfl (Nat.le_of_ble_eq_true rfl) dX0_init_14 (fun H1 locs1 ho1 hzc1 hqc1 hS1 hG1 => ?_)
  rw [hz0] at ho1 hr1_0
  have ho1 : va_at G.1 vwCl (o, .inr (1, [.ref (o + 1), .null])) H1 := ho1
  have hz1 : H1.size = o + 3 := by omega
  have hr1_0 := rw1.kept hr1_0 (hqc1 (o + 1) (by omega)) (hqc1 (o + 1 + 1) (by omega))
  have hq1 : ∀ q : Nat, q < o → H1[q]? = H[q]? := fun q hq => (hqc1 q (by omega)).trans ((kb1 q (by omega)).trans (hq0 q hq))
  refine lv_aload_n hx hb dX0_init_17 rfl (lv_at hl 0 rfl) ?_
  refine mw_new (fs := [.null]) (ci := 7) S hG1 iX6 tyX6 tyX6_ok (hts (.classLink RX0 9 RX6) (by decide +kernel)) (hts (.instantiable RX6 1) (by decide +kernel)) (hts (.initialized RX6) (by decide +kernel)) rfl (fun j hj => match j, hj with | 0, _ => rfl | _ + 1, h => absurd h (by omega)) ⟨Nat.le_of_ble_eq_true rfl, Nat.le_of_ble_eq_true rfl⟩ dX0_init_18 (fun Ha2 ha2 hza2 hxa2 => ?_)
  have hGa2 := gk_ext hxa2 hG1
  have hSa2 := vs_new hS1 hxa2
  refine lv_dup hx hb dX0_init_21 rfl ?_
  refine lv_iconst (v := 3) hx hb dX0_init_22 (by decide) ?_
  refine lv_bipush (v := 27) hx hb dX0_init_23 (by decide) ?_
  refine mw_I (As := [.int 3, .int 27]) (rest := [.ref H1.size, .ref o]) S hD hGX hGa2 hSa2 (c_X6_init l G Ha2 H1.size 3 3 27 (by decide) (by decide) (by omega) (by omega) hza2 ha2) (fun q h => h.elim (fun e => Or.inr (by omega)) (fun h => Or.inr (by omega))) gX0_init_X6_init rfl ⟨rfl, rfl⟩ (hts (.initialized RX6) (by decide +kernel)) (hts (.methodLink RX0 11 yX6_init) (by decide +kernel)) (hts (.instanceMethod yX6_init) (by decide +kernel)) rfl nmX6_init ⟨Nat.le_of_ble_eq_true rfl, Nat.le_of_ble_eq_true rfl⟩ rfl hl.1 rfl (Nat.le_of_ble_eq_true rfl) ⟨Nat.le_of_ble_eq_true rfl, Nat.le_of_ble_eq_true rfl⟩ dX0_init_25 (fun Hb2 lb2 v2 hSb2 hsb2 hPb2 hGb2 => ?_)
  obtain ⟨hv2, hr2_1, hzb2, hqb2⟩ := hPb2
  subst hv2
  have kb2 : ∀ q : Nat, q < H1.size → Hb2[q]? = H1[q]? := fun q hq => (hqb2 q hq).trans (hxa2.2 q hq)
  have hob2 := va_at.kept ho1 (kb2 o (by omega))
  refine W.eq (g2 := F0 mZ 28 ls [.ref H1.size, .ref o]) rfl ?_
  refine mw_putF (ty := .object "MinimaRoom$Row") S hD hGb2 hSb2 (Or.inl rfl) iX0 tyX0 tyX0_ok nmX0 hob2 1 rfl (by decide) (hts (.fieldLink RX0 20 "MinimaRoom$Aids" "checks" "LMinimaRoom$Row;") (by decide +kernel)) rfl hnm rfl (by decide +kernel) rfl rfl (Nat.le_of_ble_eq_true rfl) dX0_init_28 (fun H2 locs2 ho2 hzc2 hqc2 hS2 hG2 => ?_)
  rw [hz1] at ho2 hr2_1
  have ho2 : va_at G.1 vwCl (o, .inr (1, [.ref (o + 1), .ref (o + 3)])) H2 := ho2
  have hz2 : H2.size = o + 5 := by omega
  have hr2_0 := rw1.kept hr1_0 ((hqc2 (o + 1) (by omega)).trans (kb2 (o + 1) (by omega))) ((hqc2 (o + 1 + 1) (by omega)).trans (kb2 (o + 1 + 1) (by omega)))
  have hr2_1 := rw1.kept hr2_1 (hqc2 (o + 3) (by omega)) (hqc2 (o + 3 + 1) (by omega))
  have hq2 : ∀ q : Nat, q < o → H2[q]? = H[q]? := fun q hq => (hqc2 q (by omega)).trans ((kb2 q (by omega)).trans (hq1 q hq))
  refine lv_iconst (v := 0) hx hb dX0_init_31 (by decide) ?_
  refine lv_istore_n (lv' := [(1, .int 0), (0, .ref o)]) hx hb dX0_init_32 rfl hl (by decide) rfl (fun ls hl => ?_)
  refine lv_iload_n hx hb dX0_init_33 rfl (lv_at hl 0 rfl) ?_
  refine lv_iconst (v := 3) hx hb dX0_init_34 (by decide) ?_
  refine lv_icmp_ge (tgt := 53) hx hb dX0_init_35 (by decide) (fun c => absurd c (by decide)) (fun _ => ?_)
  refine lv_aload_n hx hb dX0_init_38 rfl (lv_at hl 1 rfl) ?_
  refine rd_get (own := RX0) (x := .ref (o + 1)) S hG2.1 iX0 ho2 0 rfl (by decide) (hts (.fieldLink RX0 14 "MinimaRoom$Aids" "kinds" "LMinimaRoom$Row;") (by decide +kernel)) rfl dX0_init_39 ?_
  refine lv_iload_n hx hb dX0_init_42 rfl (lv_at hl 0 rfl) ?_
  refine lv_iload_n hx hb dX0_init_43 rfl (lv_at hl 0 rfl) ?_
  refine mw_V (As := [.int 0, .int 0]) (rest := []) S hD hGX hG2 hS2 (c_X6_putO l G H2 (o + 1) 3 0 0 0 (fun _ => 0) (by decide) (by decide) (by decide) (by omega) (by omega) hr2_0) (fun q h => h.elim (fun e => Or.inr (by omega)) (fun h => Or.inr (by omega))) gX0_init_X6_put rfl ⟨rfl, rfl⟩ nmX6_put ⟨Nat.le_of_ble_eq_true rfl, Nat.le_of_ble_eq_true rfl⟩ (rd_rcv hG2.1 hr2_0.1 rfl) rfl hl.1 rfl (Nat.le_of_ble_eq_true rfl) ⟨Nat.le_of_ble_eq_true rfl, Nat.le_of_ble_eq_true rfl⟩ dX0_init_44 (fun H3 locs3 v3 hS3 hs3 hP3 hG3 => ?_)
  obtain ⟨hv3, hr3_0, hzc3, hqc3⟩ := hP3
  subst hv3
  refine W.eq (g2 := F0 mZ 47 ls []) rfl ?_
  have hz3 : H3.size = o + 5 := by omega
  have ho3 := va_at.kept ho2 (hqc3 o (by omega))
  have hr3_1 := rw1.kept hr2_1 (hqc3 (o + 3) (by omega)) (hqc3 (o + 3 + 1) (by omega))
  have hq3 : ∀ q : Nat, q < o → H3[q]? = H[q]? := fun q hq => (hqc3 q (by omega)).trans (hq2 q hq)
  refine lv_iinc (v := 1) (lv' := [(1, .int 1), (0, .ref o)]) hx hb dX0_init_47 hl (k := 0) rfl (by decide) (by decide) rfl (fun ls hl => ?_)
  refine lv_goto (tgt := 33) hx hb dX0_init_50 (by decide) ?_
  refine lv_iload_n hx hb dX0_init_33 rfl (lv_at hl 0 rfl) ?_
  refine lv_iconst (v := 3) hx hb dX0_init_34 (by decide) ?_
  refine lv_icmp_ge (tgt := 53) hx hb dX0_init_35 (by decide) (fun c => absurd c (by decide)) (fun _ => ?_)
  refine lv_aload_n hx hb dX0_init_38 rfl (lv_at hl 1 rfl) ?_
  refine rd_get (own := RX0) (x := .ref (o + 1)) S hG3.1 iX0 ho3 0 rfl (by decide) (hts (.fieldLink RX0 14 "MinimaRoom$Aids" "kinds" "LMinimaRoom$Row;") (by decide +kernel)) rfl dX0_init_39 ?_
  refine lv_iload_n hx hb dX0_init_42 rfl (lv_at hl 0 rfl) ?_
  refine lv_iload_n hx hb dX0_init_43 rfl (lv_at hl 0 rfl) ?_
  refine mw_V (As := [.int 1, .int 1]) (rest := []) S hD hGX hG3 hS3 (c_X6_putO l G H3 (o + 1) 3 1 1 1 (upd (fun _ => 0) 0 0) (by decide) (by decide) (by decide) (by omega) (by omega) hr3_0) (fun q h => h.elim (fun e => Or.inr (by omega)) (fun h => Or.inr (by omega))) gX0_init_X6_put rfl ⟨rfl, rfl⟩ nmX6_put ⟨Nat.le_of_ble_eq_true rfl, Nat.le_of_ble_eq_true rfl⟩ (rd_rcv hG3.1 hr3_0.1 rfl) rfl hl.1 rfl (Nat.le_of_ble_eq_true rfl) ⟨Nat.le_of_ble_eq_true rfl, Nat.le_of_ble_eq_true rfl⟩ dX0_init_44 (fun H4 locs4 v4 hS4 hs4 hP4 hG4 => ?_)
  obtain ⟨hv4, hr4_0, hzc4, hqc4⟩ := hP4
  subst hv4
  refine W.eq (g2 := F0 mZ 47 ls []) rfl ?_
  have hz4 : H4.size = o + 5 := by omega
  have ho4 := va_at.kept ho3 (hqc4 o (by omega))
  have hr4_1 := rw1.kept hr3_1 (hqc4 (o + 3) (by omega)) (hqc4 (o + 3 + 1) (by omega))
  have hq4 : ∀ q : Nat, q < o → H4[q]? = H[q]? := fun q hq => (hqc4 q (by omega)).trans (hq3 q hq)
  refine lv_iinc (v := 2) (lv' := [(1, .int 2), (0, .ref o)]) hx hb dX0_init_47 hl (k := 0) rfl (by decide) (by decide) rfl (fun ls hl => ?_)
  refine lv_goto (tgt := 33) hx hb dX0_init_50 (by decide) ?_
  refine lv_iload_n hx hb dX0_init_33 rfl (lv_at hl 0 rfl) ?_
  refine lv_iconst (v := 3) hx hb dX0_init_34 (by decide) ?_
  refine lv_icmp_ge (tgt := 53) hx hb dX0_init_35 (by decide) (fun c => absurd c (by decide)) (fun _ => ?_)
  refine lv_aload_n hx hb dX0_init_38 rfl (lv_at hl 1 rfl) ?_
  refine rd_get (own := RX0) (x := .ref (o + 1)) S hG4.1 iX0 ho4 0 rfl (by decide) (hts (.fieldLink RX0 14 "MinimaRoom$Aids" "kinds" "LMinimaRoom$Row;") (by decide +kernel)) rfl dX0_init_39 ?_
  refine lv_iload_n hx hb dX0_init_42 rfl (lv_at hl 0 rfl) ?_
  refine lv_iload_n hx hb dX0_init_43 rfl (lv_at hl 0 rfl) ?_
  refine mw_V (As := [.int 2, .int 2]) (rest := []) S hD hGX hG4 hS4 (c_X6_putO l G H4 (o + 1) 3 2 2 2 (upd (upd (fun _ => 0) 0 0) 1 1) (by decide) (by decide) (by decide) (by omega) (by omega) hr4_0) (fun q h => h.elim (fun e => Or.inr (by omega)) (fun h => Or.inr (by omega))) gX0_init_X6_put rfl ⟨rfl, rfl⟩ nmX6_put ⟨Nat.le_of_ble_eq_true rfl, Nat.le_of_ble_eq_true rfl⟩ (rd_rcv hG4.1 hr4_0.1 rfl) rfl hl.1 rfl (Nat.le_of_ble_eq_true rfl) ⟨Nat.le_of_ble_eq_true rfl, Nat.le_of_ble_eq_true rfl⟩ dX0_init_44 (fun H5 locs5 v5 hS5 hs5 hP5 hG5 => ?_)
  obtain ⟨hv5, hr5_0, hzc5, hqc5⟩ := hP5
  subst hv5
  refine W.eq (g2 := F0 mZ 47 ls []) rfl ?_
  have hz5 : H5.size = o + 5 := by omega
  have ho5 := va_at.kept ho4 (hqc5 o (by omega))
  have hr5_1 := rw1.kept hr4_1 (hqc5 (o + 3) (by omega)) (hqc5 (o + 3 + 1) (by omega))
  have hq5 : ∀ q : Nat, q < o → H5[q]? = H[q]? := fun q hq => (hqc5 q (by omega)).trans (hq4 q hq)
  refine lv_iinc (v := 3) (lv' := [(1, .int 3), (0, .ref o)]) hx hb dX0_init_47 hl (k := 0) rfl (by decide) (by decide) rfl (fun ls hl => ?_)
  refine lv_goto (tgt := 33) hx hb dX0_init_50 (by decide) ?_
  refine lv_iload_n hx hb dX0_init_33 rfl (lv_at hl 0 rfl) ?_
  refine lv_iconst (v := 3) hx hb dX0_init_34 (by decide) ?_
  refine lv_icmp_ge (tgt := 53) hx hb dX0_init_35 (by decide) (fun _ => ?_) (fun c => absurd (by decide) c)
  have hr9 : rw1 G H5 (o + 1) 3 (fun j => nI j) := rw1.cg hr5_0 (fun j hj => by
    have h9 : j = 0 ∨ j = 1 ∨ j = 2 := by omega
    rcases h9 with rfl | rfl | rfl <;> rfl)
  exact mw_vret S hr hlk hS5 ⟨Nat.le_of_ble_eq_true rfl, Nat.le_of_ble_eq_true rfl⟩ dX0_init_53 ⟨rfl, ho5, hr9, hr5_1, by omega, hq5⟩
