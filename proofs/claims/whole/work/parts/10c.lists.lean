/-! constructors of a list, and of a procedure; add(e) on the reference's lists -/
theorem nmJxc12de_init_da8c8 : nmV yJxc12de_init_da8c8 RJxc12de 0 := by decide +kernel
theorem nmJx4a65c_init_da8c8 : nmV yJx4a65c_init_da8c8 RJx4a65c 0 := by decide +kernel
abbrev DO (o n : Nat) : Nat → Prop := fun q => q = o ∨ n ≤ q
theorem dp_o {G : GT} {o n : Nat} (ho : G.2.2.1 ≤ o) (hz : G.2.2.1 ≤ n) : DP G (DO o n) n := ⟨fun q h => Or.inr h, fun q h => h.elim (fun e => by rw [e]; exact ho) (Nat.le_trans hz)⟩
set_option maxHeartbeats 1000000 in
theorem c_alst (l : Launch) (G : GT) (H : Heap) (o : Nat) (m0 : Int32) (x1 x2 : Value) (hz : G.2.2.1 ≤ H.size) (hzo : G.2.2.1 ≤ o) (ho : va_at G.1 vwCl (o, .inr (0, [.int m0, x1, x2])) H) : MwV l G (DO o H.size) H yJxc12de_init_da8c8 wsJxc12de_init_da8c8 { frames := 2, cells := 0, slots := 0, locals := 40 } [.ref o] 0 0 (fun v t => v = none ∧ va_at G.1 vwCl (o, .inr (0, [.int 0, x1, x2])) t ∧ t.size = H.size ∧ ∀ q : Nat, q ≠ o → t[q]? = H[q]?) := by
  refine mw_of (cc := cJxc12de_init_da8c8) (maxL := 1) (ret := none) (by decide) rfl (Nat.le_of_ble_eq_true rfl) ?_
  intro pZ eZ sZ mZ bZ meZ cZ ls S hr hlk hl hHs hG hGX
  have S : CallFix pZ mZ cZ cJxc12de_init_da8c8 1 sZ _ wsJxc12de_init_da8c8 RJxc12de := S
  have hx := S.1
  have hb := S.2.1
  have hts := S.2.2.2.2
  have hl : lv_has ls 1 [(0, .ref o)] := hl
  have hD : DP G (DO o H.size) H.size := dp_o hzo hz
  have hS : va_S (DO o H.size) H H [] := va_S.rf
  have iL : ∀ w ∈ u_ws RJx4a65c TJx4a65c 3, w ∈ wsJxc12de_init_da8c8 := by decide +kernel
  have w1 := hts (.fieldLink RJxc12de 7 "java/util/AbstractList" "modCount" "I") (by decide +kernel)
  refine lv_aload_n hx hb dJxc12de_init_da8c8_0 rfl (lv_at hl 0 rfl) ?_
  refine mw_I (As := []) (rest := []) S hD hGX hG hS (c_acol l G (DO o H.size) H o) (fun q h => h) gJxc12de_init_da8c8_Jxa1e45_init_da8c8 rfl ⟨rfl, rfl⟩ (hts (.initialized RJxa1e45) (by decide +kernel)) (hts (.methodLink RJxc12de 1 yJxa1e45_init_da8c8) (by decide +kernel)) (hts (.instanceMethod yJxa1e45_init_da8c8) (by decide +kernel)) rfl nmJxa1e45_init_da8c8 ⟨Nat.le_of_ble_eq_true rfl, Nat.le_of_ble_eq_true rfl⟩ rfl hl.1 rfl (Nat.le_of_ble_eq_true rfl) ⟨Nat.zero_le _, Nat.zero_le _⟩ dJxc12de_init_da8c8_1 (fun H1 locs1 v hS1 hs1 hP1 hG1 => ?_)
  obtain ⟨hv, hH1⟩ := hP1
  subst hv
  subst hH1
  refine W.eq (g2 := F0 mZ 4 ls []) rfl ?_
  refine lv_aload_n hx hb dJxc12de_init_da8c8_4 rfl (lv_at hl 0 rfl) ?_
  refine lv_iconst (v := 0) hx hb dJxc12de_init_da8c8_5 (by decide) ?_
  refine mw_putf (ty := .int) S hD hG1 hS1 (Or.inl rfl) iL tyJx4a65c tyJx4a65c_ok nmJx4a65c ho 0 rfl (by decide) w1 rfl (by decide +kernel) rfl rfl (Nat.le_of_ble_eq_true rfl) dJxc12de_init_da8c8_6 (fun H2 locs2 hn2 hz2 hq2 hS2 hG2 => ?_)
  exact mw_vret S hr hlk hS2 ⟨Nat.zero_le _, Nat.zero_le _⟩ dJxc12de_init_da8c8_9 ⟨rfl, hn2, hz2, hq2⟩
section QGS
variable {p : Program} {l : Launch} {e : Env} {R : Room} {s : State} {m : MethodId} {args : Array Value} {below : List Frame} {meth : Method} {c : Code} {H H1 : Heap} {locs : List Loc} {cells slots : Nat} {Q : State → Prop}
variable {Ts : List Cond} {cc : ByteArray} {nL index : Nat} {own : String} {pc : Nat} {rest : List Value} {ls : Array Slot} {G : GT} {D : Nat → Prop}
theorem mw_gets {C n d : String} {x : Value} (S : CallFix p m c cc nL s args Ts own) (hH : s.heap = H) (hD : DP G D H.size) (hS : va_S D H H1 locs) (hZ : va_Z C n d x (fun q => G.2.2.1 ≤ q) s H) (hlink : (Cond.fieldLink own index C n d).before args s = true) (hdg : decode cc pc = .ok (.getstatic index, 3))
    (kk : W p l e R s m args below meth c H1 locs cells slots Q (F0 m (pc + 3) ls (x :: rest))) : W p l e R s m args below meth c H1 locs cells slots Q (F0 m pc ls rest) := by
  subst hH
  exact va_gets S.1 S.2.1 hZ ⟨hS.1, fun q hq hn => hS.2.1 q hq fun h => hn (hD.2 q h), fun q hq => hD.2 _ (hS.2.2 q hq)⟩ S.2.2.2.1 hlink (fun _ h => h) hdg kk
end QGS
set_option maxHeartbeats 1000000 in
theorem c_list (l : Launch) (G : GT) (H : Heap) (o : Nat) (hz : G.2.2.1 ≤ H.size) (hzo : G.2.2.1 ≤ o) (ho : va_at G.1 vwCl (o, .inr (0, [.int 0, .null, .int 0])) H) : MwV l G (DO o H.size) H yJx4a65c_init_da8c8 wsJx4a65c_init_da8c8 { frames := 3, cells := 0, slots := 0, locals := 70 } [.ref o] 0 0 (fun v t => v = none ∧ va_at G.1 vwCl (o, .inr (0, [.int 0, .ref (G.2.2.2 0), .int 0])) t ∧ t.size = H.size ∧ ∀ q : Nat, q ≠ o → t[q]? = H[q]?) := by
  refine mw_of (cc := cJx4a65c_init_da8c8) (maxL := 1) (ret := none) (by decide) rfl (Nat.le_of_ble_eq_true rfl) ?_
  intro pZ eZ sZ mZ bZ meZ cZ ls S hr hlk hl hHs hG hGX
  have S : CallFix pZ mZ cZ cJx4a65c_init_da8c8 1 sZ _ wsJx4a65c_init_da8c8 RJx4a65c := S
  have hx := S.1
  have hb := S.2.1
  have hts := S.2.2.2.2
  have hl : lv_has ls 1 [(0, .ref o)] := hl
  have hD : DP G (DO o H.size) H.size := dp_o hzo hz
  have hS : va_S (DO o H.size) H H [] := va_S.rf
  have iL : ∀ w ∈ u_ws RJx4a65c TJx4a65c 3, w ∈ wsJx4a65c_init_da8c8 := by decide +kernel
  have w1 := hts (.fieldLink RJx4a65c 9 "java/util/ArrayList" "elementData" "[Ljava/lang/Object;") (by decide +kernel)
  have w2 := hts (.fieldLink RJx4a65c 39 "java/util/ArrayList" "DEFAULTCAPACITY_EMPTY_ELEMENTDATA" "[Ljava/lang/Object;") (by decide +kernel)
  refine lv_aload_n hx hb dJx4a65c_init_da8c8_0 rfl (lv_at hl 0 rfl) ?_
  refine mw_I (As := []) (rest := []) S hD hGX hG hS (c_alst l G H o 0 .null (.int 0) hz hzo ho) (fun q h => h) gJx4a65c_init_da8c8_Jxc12de_init_da8c8 rfl ⟨rfl, rfl⟩ (hts (.initialized RJxc12de) (by decide +kernel)) (hts (.methodLink RJx4a65c 1 yJxc12de_init_da8c8) (by decide +kernel)) (hts (.instanceMethod yJxc12de_init_da8c8) (by decide +kernel)) rfl nmJxc12de_init_da8c8 ⟨Nat.le_of_ble_eq_true rfl, Nat.le_of_ble_eq_true rfl⟩ rfl hl.1 rfl (Nat.le_of_ble_eq_true rfl) ⟨Nat.zero_le _, Nat.zero_le _⟩ dJx4a65c_init_da8c8_1 (fun H1 locs1 v hS1 hs1 hP1 hG1 => ?_)
  obtain ⟨hv, h11, hz1, hq1⟩ := hP1
  subst hv
  refine W.eq (g2 := F0 mZ 4 ls []) rfl ?_
  refine lv_aload_n hx hb dJx4a65c_init_da8c8_4 rfl (lv_at hl 0 rfl) ?_
  refine mw_gets (own := RJx4a65c) (x := .ref (G.2.2.2 0)) S hHs hD hS1 hG.2.2.2.2.1.1 w2 dJx4a65c_init_da8c8_5 ?_
  refine mw_putf (ty := .array (.object "java/lang/Object")) S hD hG1 hS1 (Or.inl rfl) iL tyJx4a65c tyJx4a65c_ok nmJx4a65c h11 1 rfl (by decide) w1 rfl (by decide +kernel) rfl rfl (Nat.le_of_ble_eq_true rfl) dJx4a65c_init_da8c8_8 (fun H2 locs2 hn2 hz2 hq2 hS2 hG2 => ?_)
  exact mw_vret S hr hlk hS2 ⟨Nat.zero_le _, Nat.zero_le _⟩ dJx4a65c_init_da8c8_11 ⟨rfl, hn2, by omega, fun q hq => (hq2 q hq).trans (hq1 q hq)⟩
theorem nmX10_init : nmV yX10_init RX10 2 := by decide +kernel
set_option maxHeartbeats 1000000 in
theorem c_X10_init (l : Launch) (G : GT) (H : Heap) (o : Nat) (x1 x2 : Int32) (hz : G.2.2.1 ≤ H.size) (hzo : G.2.2.1 ≤ o) (ho : va_at G.1 vwCl (o, .inr (11, [.int 0, .int 0, .null])) H) : MwV l G (DO o H.size) H yX10_init wsX10_init { frames := 4, cells := 1, slots := 3, locals := 100 } [.ref o, .int x1, .int x2] 1 3 (fun v t => v = none ∧ va_at G.1 vwCl (o, .inr (11, [.int x1, .int x2, .ref H.size])) t ∧ va_at G.1 vwCl (H.size, .inr (0, [.int 0, .ref (G.2.2.2 0), .int 0])) t ∧ t.size = H.size + 1 ∧ ∀ q : Nat, q < H.size → q ≠ o → t[q]? = H[q]?) := by
  refine mw_ofI (cc := cX10_init) (maxL := 3) (ret := none) (by decide) rfl (Nat.le_of_ble_eq_true rfl) ?_
  intro pZ eZ sZ mZ bZ meZ cZ ls S hr hlk hnm hl hHs hG hGX
  have S : CallFix pZ mZ cZ cX10_init 3 sZ _ wsX10_init RX10 := S
  have hx := S.1
  have hb := S.2.1
  have hown := S.2.2.2.1
  have hts := S.2.2.2.2
  have hl : lv_has ls 3 [(0, .ref o), (1, .int x1), (2, .int x2)] := hl
  have hD : DP G (DO o H.size) H.size := dp_o hzo hz
  have hS : va_S (DO o H.size) H H [] := va_S.rf
  have iX10 : ∀ w ∈ u_ws RX10 TX10 3, w ∈ wsX10_init := by decide +kernel
  have iL : ∀ w ∈ u_ws RJx4a65c TJx4a65c 3, w ∈ wsX10_init := by decide +kernel
  have hlt : o < H.size := va_at.lt ho
  refine lv_aload_n hx hb dX10_init_0 rfl (lv_at hl 0 rfl) ?_
  refine W.objInit hx hb hown (hts (.methodLink RX10 3 objectInit) (by decide +kernel)) (hts (.instanceMethod objectInit) (by decide +kernel)) (hts (.code objectInit ⟨#[0xb1]⟩ 1 none) (by decide +kernel)) rfl (hl.1.trans S.2.2.1.symm) rfl dX10_init_1 (Nat.le_of_ble_eq_true rfl) (Nat.le_of_ble_eq_true rfl) ?_
  refine W.eq (g2 := F0 mZ 4 ls []) rfl ?_
  refine lv_aload_n hx hb dX10_init_4 rfl (lv_at hl 0 rfl) ?_
  refine mw_new (fs := [.int 0, .null, .int 0]) (ci := 0) S hG iL tyJx4a65c tyJx4a65c_ok (hts (.classLink RX10 9 RJx4a65c) (by decide +kernel)) (hts (.instantiable RJx4a65c 3) (by decide +kernel)) (hts (.initialized RJx4a65c) (by decide +kernel)) rfl (fun j hj => match j, hj with | 0, _ => rfl | 1, _ => rfl | 2, _ => rfl | _ + 3, h => absurd h (by omega)) ⟨Nat.le_of_ble_eq_true rfl, Nat.le_of_ble_eq_true rfl⟩ dX10_init_5 (fun H1 ha1 hz1 hx1 => ?_)
  have hG1 := gk_ext hx1 hG
  have hS1 := vs_new hS hx1
  have ho1 := va_at.kept ho (hx1.2 _ hlt)
  refine lv_dup hx hb dX10_init_8 rfl ?_
  refine mw_I (As := []) (rest := [.ref H.size, .ref o]) S hD hGX hG1 hS1 (c_list l G H1 H.size (by omega) hz ha1) (fun q h => h.elim (fun e => Or.inr (by omega)) (fun h => Or.inr (by omega))) gX10_init_Jx4a65c_init_da8c8 rfl ⟨rfl, rfl⟩ (hts (.initialized RJx4a65c) (by decide +kernel)) (hts (.methodLink RX10 11 yJx4a65c_init_da8c8) (by decide +kernel)) (hts (.instanceMethod yJx4a65c_init_da8c8) (by decide +kernel)) rfl nmJx4a65c_init_da8c8 ⟨Nat.le_of_ble_eq_true rfl, Nat.le_of_ble_eq_true rfl⟩ rfl hl.1 rfl (Nat.le_of_ble_eq_true rfl) ⟨Nat.le_of_ble_eq_true rfl, Nat.le_of_ble_eq_true rfl⟩ dX10_init_9 (fun H2 locs2 v hS2 hs2 hP2 hG2 => ?_)
  obtain ⟨hv, ha2, hz2, hq2⟩ := hP2
  subst hv
  have ho2 := va_at.kept ho1 (hq2 _ (by show o ≠ H.size; omega))
  refine W.eq (g2 := F0 mZ 12 ls [.ref H.size, .ref o]) rfl ?_
  refine mw_putF (ty := .object "java/util/ArrayList") S hD hG2 hS2 (Or.inl rfl) iX10 tyX10 tyX10_ok nmX10 ho2 2 rfl (by decide) (hts (.fieldLink RX10 12 "MinimaRoomModel$Procedure" "amendments" "Ljava/util/ArrayList;") (by decide +kernel)) rfl hnm rfl (by decide +kernel) rfl rfl (Nat.le_of_ble_eq_true rfl) dX10_init_12 (fun H3 locs3 hn3 hz3 hq3 hS3 hG3 => ?_)
  refine lv_aload_n hx hb dX10_init_15 rfl (lv_at hl 0 rfl) ?_
  refine lv_iload_n hx hb dX10_init_16 rfl (lv_at hl 1 rfl) ?_
  refine mw_putF (ty := .int) S hD hG3 hS3 (Or.inl rfl) iX10 tyX10 tyX10_ok nmX10 hn3 0 rfl (by decide) (hts (.fieldLink RX10 18 "MinimaRoomModel$Procedure" "aid" "I") (by decide +kernel)) rfl hnm rfl (by decide +kernel) rfl rfl (Nat.le_of_ble_eq_true rfl) dX10_init_17 (fun H4 locs4 hn4 hz4 hq4 hS4 hG4 => ?_)
  refine lv_aload_n hx hb dX10_init_20 rfl (lv_at hl 0 rfl) ?_
  refine lv_iload_n hx hb dX10_init_21 rfl (lv_at hl 2 rfl) ?_
  refine mw_putF (ty := .int) S hD hG4 hS4 (Or.inl rfl) iX10 tyX10 tyX10_ok nmX10 hn4 1 rfl (by decide) (hts (.fieldLink RX10 22 "MinimaRoomModel$Procedure" "slope" "I") (by decide +kernel)) rfl hnm rfl (by decide +kernel) rfl rfl (Nat.le_of_ble_eq_true rfl) dX10_init_22 (fun H5 locs5 hn5 hz5 hq5 hS5 hG5 => ?_)
  have hne : H.size ≠ o := by omega
  exact mw_vret S hr hlk hS5 ⟨Nat.le_of_ble_eq_true rfl, Nat.le_of_ble_eq_true rfl⟩ dX10_init_25 ⟨rfl, hn5, va_at.kept (va_at.kept (va_at.kept ha2 (hq3 _ hne)) (hq4 _ hne)) (hq5 _ hne), by omega, fun q hq hqo => (hq5 q hqo).trans ((hq4 q hqo).trans ((hq3 q hqo).trans ((hq2 q (by omega)).trans (hx1.2 q hq))))⟩
/-! the elements' classes -/
theorem elC_o {G : GT} {H : Heap} {o ci : Nat} {q : vw_C} {fs : List Value} (ho : va_at G.1 vwCl (o, .inr (ci, fs)) H) (hc : vwCl[ci]? = some q) : elC G H q.1 1 (fun _ => some o) := fun u hu i y _ hy => by
  cases hy
  exact rd_rcv hu ho hc
theorem elC_a {G : GT} {H : Heap} {o n : Nat} {r : Nat → Int32} (ho : va_at G.1 vwCl (o, .inl (G.2.1 0, n, .inl r)) H) : elC G H "[I" 1 (fun _ => some o) := fun u hu i y _ hy => by
  cases hy
  exact ⟨vp_cell (G.2.1 0) (n, .inl r), ho, rfl, (hu.1.2 0 _ rfl).2⟩
theorem ca_9 : Cond.castable RX8 "java/lang/Object" ∈ tables_1 := by decide +kernel
theorem ca_10 : Cond.castable RX9 "java/lang/Object" ∈ tables_1 := by decide +kernel
theorem ca_11 : Cond.castable RX10 "java/lang/Object" ∈ tables_1 := by decide +kernel
theorem ca_I : Cond.castable "[I" "java/lang/Object" ∈ tables_1 := by decide +kernel
abbrev rmAdd : Room := { frames := 7, cells := 1, slots := 40, locals := 190 }
/-- add(e) on a list of the reference, in any of its cases -/
theorem c_addX (l : Launch) (G : GT) (D : Nat → Prop) (H : Heap) (hD : DP G D H.size) (h : Nat) (hDh : D h) (mc : Int32) (b c n x : Nat) (r : Nat → Option Nat) (C : String) (hC : Cond.castable C "java/lang/Object" ∈ tables_1) (hcg : c = 0 ∨ cG c) (hnc : n ≤ c) (hn : n ≤ 22) (h1 : va_at G.1 vwCl (h, lsO mc (if c = 0 then G.2.2.2 0 else b) n) H) (h2 : c ≠ 0 → D b ∧ b ≠ h ∧ va_at G.1 vwCl (b, .inl (G.2.1 1, gRef c r)) H) (hs0 : G.2.2.2 0 < G.2.2.1) (hst : stE G H) (hr0 : ∀ i, n ≤ i → r i = none) (hxh : x ≠ h) (hel : elC G H C 1 (fun _ => some x)) (hels : elC G H C n r) (hnh : ∀ i y, i < n → r i = some y → y ≠ h) :
    MwV l G D H yJx4a65c_add_9ea2d wsJx4a65c_add_9ea2d rmAdd [.ref h, .ref x] 1 40 (adQ G H h (if c = 0 then G.2.2.2 0 else b) n x mc r) := by
  by_cases e : c = 0
  · rw [if_pos e] at h1 ⊢
    have hn0 : n = 0 := by omega
    subst hn0
    have hr : r = fun _ => none := funext fun i => hr0 i (Nat.zero_le _)
    rw [hr]
    exact c_add_0 l G D H hD h hDh mc x (fun z => by have := hD.2 _ hDh; omega) C hC h1 hst hxh hel
  · rw [if_neg e] at h1 ⊢
    obtain ⟨k1, k2, k3⟩ := h2 e
    have hcg := hcg.resolve_left e
    by_cases e2 : n < c
    · exact c_add_s l G D H hD h hDh mc b n c x k1 k2 r C hC e2 hcg h1 k3 hxh hel
    · have e3 : n = c := by omega
      subst e3
      have h9 : n = 10 ∨ n = 15 ∨ n = 22 ∨ n = 33 := hcg
      exact c_add_N l G D H hD h hDh mc b n (if n = 10 then 15 else if n = 15 then 22 else 33) x k2 r hr0 C hC (by rcases h9 with rfl | rfl | rfl | rfl <;> first | decide | omega) h1 k3 hxh hel hels hnh
section ADM
variable {B : Nat → Nat} {th : Int32} {mc : Nat → Int32} {cp : Nat → Nat} {f : Nat → Nat → Int32} {g : Nat → Nat} {H : Heap}
theorem lsE_0 {o n i : Nat} (h : n ≤ i) : lsE B o n i = none := if_neg (by omega)
theorem lsE_e {o n i y : Nat} (h : i < n) (hy : lsE B o n i = some y) : y = B (o + i) := by
  rw [lsE_at h] at hy; exact (Option.some.inj hy).symm
theorem c_addO (l : Launch) (G : GT) (hM : MP G B th mc cp f g H) (D : Nat → Prop) (hD : DP G D H.size) (hB : DB D B cp g) (hcp : CG cp) (hs0 : G.2.2.2 0 < G.2.2.1) (hst : stE G H) (o : Nat) (fs : List Value) (ho : va_at G.1 vwCl (o, .inr (10, fs)) H) (hfo : ∀ k, mD cp g k → B k ≠ o) : MwV l G D H yJx4a65c_add_9ea2d wsJx4a65c_add_9ea2d rmAdd [.ref (B 5), .ref o] 1 40 (adQ G H (B 5) (eA G B cp 5 8) (g 1) o (mc 5) (lsE B 20 (g 1))) := by
  have hI := hM.1
  have hg1 := hI.1.2.2.1
  have hq5 : mD cp g 5 := Or.inl (by decide)
  exact c_addX l G D H hD (B 5) (hB.1 5 hq5) (mc 5) (B 8) (cp 5) (g 1) o (lsE B 20 (g 1)) RX9 ca_10 (hcp 5) hI.2.1.1 (by omega) (mP_5 hM) (fun e => ⟨hB.1 8 (Or.inr (Or.inl ⟨rfl, e⟩)), fun z => absurd (hB.2 8 5 (Or.inr (Or.inl ⟨rfl, e⟩)) hq5 z) (by decide), hM.2 8 (Or.inr (Or.inl ⟨rfl, e⟩))⟩) hs0 hst (fun i h => lsE_0 h) (Ne.symm (hfo 5 hq5)) (elC_o ho rfl) (fun u hu i y hi hy => by rw [lsE_e hi hy]; exact rd_rcv hu (mP_ob hM hi) rfl) (fun i y hi hy z => by
    rw [lsE_e hi hy] at z
    exact absurd (hB.2 (20 + i) 5 (Or.inr (Or.inr (Or.inr (Or.inr (Or.inl ⟨by omega, by omega, by omega⟩))))) hq5 z) (by omega))
theorem c_addP (l : Launch) (G : GT) (hM : MP G B th mc cp f g H) (D : Nat → Prop) (hD : DP G D H.size) (hB : DB D B cp g) (hcp : CG cp) (hs0 : G.2.2.2 0 < G.2.2.1) (hst : stE G H) (o : Nat) (fs : List Value) (ho : va_at G.1 vwCl (o, .inr (11, fs)) H) (hfo : ∀ k, mD cp g k → B k ≠ o) : MwV l G D H yJx4a65c_add_9ea2d wsJx4a65c_add_9ea2d rmAdd [.ref (B 6), .ref o] 1 40 (adQ G H (B 6) (eA G B cp 6 9) (g 3) o (mc 6) (lsE B 40 (g 3))) := by
  have hI := hM.1
  have hg3 := hI.1.2.2.2.1
  have hq5 : mD cp g 6 := Or.inl (by decide)
  exact c_addX l G D H hD (B 6) (hB.1 6 hq5) (mc 6) (B 9) (cp 6) (g 3) o (lsE B 40 (g 3)) RX10 ca_11 (hcp 6) hI.2.1.2.1 (by omega) (mP_6 hM) (fun e => ⟨hB.1 9 (Or.inr (Or.inr (Or.inl ⟨rfl, e⟩))), fun z => absurd (hB.2 9 6 (Or.inr (Or.inr (Or.inl ⟨rfl, e⟩))) hq5 z) (by decide), hM.2 9 (Or.inr (Or.inr (Or.inl ⟨rfl, e⟩)))⟩) hs0 hst (fun i h => lsE_0 h) (Ne.symm (hfo 6 hq5)) (elC_o ho rfl) (fun u hu i y hi hy => by rw [lsE_e hi hy]; exact rd_rcv hu (mP_pr hM hi) rfl) (fun i y hi hy z => by
    rw [lsE_e hi hy] at z
    exact absurd (hB.2 (40 + i) 6 (Or.inr (Or.inr (Or.inr (Or.inr (Or.inr (Or.inl ⟨by omega, by omega, by omega⟩)))))) hq5 z) (by omega))
theorem c_addN (l : Launch) (G : GT) (hM : MP G B th mc cp f g H) (D : Nat → Prop) (hD : DP G D H.size) (hB : DB D B cp g) (hcp : CG cp) (hs0 : G.2.2.2 0 < G.2.2.1) (hst : stE G H) (o : Nat) (fs : List Value) (ho : va_at G.1 vwCl (o, .inr (9, fs)) H) (hfo : ∀ k, mD cp g k → B k ≠ o) : MwV l G D H yJx4a65c_add_9ea2d wsJx4a65c_add_9ea2d rmAdd [.ref (B 7), .ref o] 1 40 (adQ G H (B 7) (eA G B cp 7 10) (g 5) o (mc 7) (lsE B 200 (g 5))) := by
  have hI := hM.1
  have hg5 := hI.1.2.2.2.2.2
  have hq5 : mD cp g 7 := Or.inl (by decide)
  exact c_addX l G D H hD (B 7) (hB.1 7 hq5) (mc 7) (B 10) (cp 7) (g 5) o (lsE B 200 (g 5)) RX8 ca_9 (hcp 7) hI.2.1.2.2.1 (by omega) (mP_7 hM) (fun e => ⟨hB.1 10 (Or.inr (Or.inr (Or.inr (Or.inl ⟨rfl, e⟩)))), fun z => absurd (hB.2 10 7 (Or.inr (Or.inr (Or.inr (Or.inl ⟨rfl, e⟩)))) hq5 z) (by decide), hM.2 10 (Or.inr (Or.inr (Or.inr (Or.inl ⟨rfl, e⟩))))⟩) hs0 hst (fun i h => lsE_0 h) (Ne.symm (hfo 7 hq5)) (elC_o ho rfl) (fun u hu i y hi hy => by rw [lsE_e hi hy]; exact rd_rcv hu (mP_no hM hi) rfl) (fun i y hi hy z => by
    rw [lsE_e hi hy] at z
    exact absurd (hB.2 (200 + i) 7 (Or.inr (Or.inr (Or.inr (Or.inr (Or.inr (Or.inr (Or.inr (Or.inr (Or.inr ⟨by omega, by omega⟩))))))))) hq5 z) (by omega))
theorem c_addA (l : Launch) (G : GT) (hM : MP G B th mc cp f g H) (D : Nat → Prop) (hD : DP G D H.size) (hB : DB D B cp g) (hcp : CG cp) (hs0 : G.2.2.2 0 < G.2.2.1) (hst : stE G H) (i : Nat) (hi : i < g 3) (o n : Nat) (r : Nat → Int32) (ho : va_at G.1 vwCl (o, .inl (G.2.1 0, n, .inl r)) H) (hfo : ∀ k, mD cp g k → B k ≠ o) : MwV l G D H yJx4a65c_add_9ea2d wsJx4a65c_add_9ea2d rmAdd [.ref (B (50 + i)), .ref o] 1 40 (adQ G H (B (50 + i)) (eA G B cp (50 + i) (60 + i)) (amL f i (g 4)).length o (mc (50 + i)) (amE B (amL f i (g 4)))) := by
  have hI := hM.1
  have hg3 := hI.1.2.2.2.1
  have hg4 := hI.1.2.2.2.2.1
  have hlen : (amL f i (g 4)).length ≤ g 4 := by
    have h9 := List.length_filter_le (fun j => decide (f 19 j = nI i)) (List.range (g 4))
    rw [List.length_range] at h9
    exact h9
  have hq5 : mD cp g (50 + i) := Or.inr (Or.inr (Or.inr (Or.inr (Or.inr (Or.inr (Or.inl ⟨by omega, by omega, by omega⟩))))))
  have hqj : cp (50 + i) ≠ 0 → mD cp g (60 + i) := fun h => Or.inr (Or.inr (Or.inr (Or.inr (Or.inr (Or.inr (Or.inr (Or.inl ⟨by omega, by omega, by omega, by rw [show 60 + i - 10 = 50 + i by omega]; exact h⟩)))))))
  have hnone : ∀ q, (amL f i (g 4)).length ≤ q → amE B (amL f i (g 4)) q = none := fun q h => by
    unfold amE; rw [List.getElem?_eq_none h]; rfl
  have hsome : ∀ q y, q < (amL f i (g 4)).length → amE B (amL f i (g 4)) q = some y → ∃ j, j < g 4 ∧ y = B (100 + j) := fun q y h hy => by
    rw [amE_at h] at hy
    exact ⟨_, amL_lt h, (Option.some.inj hy).symm⟩
  exact c_addX l G D H hD (B (50 + i)) (hB.1 _ hq5) (mc (50 + i)) (B (60 + i)) (cp (50 + i)) _ o (amE B (amL f i (g 4))) "[I" ca_I (hcp _) (hI.2.1.2.2.2.1 i hi) (by omega) (mP_pl hM hi) (fun e => ⟨hB.1 _ (hqj e), fun z => absurd (hB.2 _ _ (hqj e) hq5 z) (by omega), by
      have h9 := hM.2 _ (hqj e)
      rw [mC_pe (by omega)] at h9
      exact h9⟩) hs0 hst hnone (Ne.symm (hfo _ hq5)) (elC_a ho) (fun u hu q y hq hy => by
    obtain ⟨j, hj, rfl⟩ := hsome q y hq hy
    exact elC_a (mP_am hM hj) u hu 0 _ (by decide) rfl) (fun q y hq hy z => by
    obtain ⟨j, hj, rfl⟩ := hsome q y hq hy
    exact absurd (hB.2 (100 + j) (50 + i) (Or.inr (Or.inr (Or.inr (Or.inr (Or.inr (Or.inr (Or.inr (Or.inr (Or.inl ⟨by omega, by omega, by omega⟩))))))))) hq5 z) (by omega))
end ADM
