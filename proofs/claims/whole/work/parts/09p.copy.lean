/-! Arrays.copyOf -/
section QMS
variable {p : Program} {l : Launch} {e : Env} {R : Room} {s : State} {m : MethodId} {args : Array Value} {below : List Frame} {meth : Method} {c : Code} {H H1 : Heap} {locs : List Loc} {cells slots : Nat} {Q : State → Prop}
variable {Ts ws ws' : List Cond} {cc bytes : ByteArray} {nL maxL index n : Nat} {own C : String} {y : MethodName} {ret : Option FieldType} {rm : Room} {pc nc ns : Nat} {As rest st0 : List Value} {ls : Array Slot} {G : GT} {D D1 : Nat → Prop} {P : Option Value → Heap → Prop}
theorem mw_S (S : CallFix p m c cc nL s args Ts own) (hD : DP G D H.size) (hGX : GX s) (hG : GK G H1 s) (hS : va_S D H H1 locs) (hH : MwV l G D1 H1 y ws rm As nc ns P) (hD1 : ∀ q, D1 q → D q) (hT : GoodIn Ts (va_wsS own index y ws)) (hw : ws = Cond.code y bytes maxL ret :: ws') (h0 : rm.cells = nc ∧ rm.slots = ns) (hd : nmV y C n) (hR : rm.frames + 1 ≤ R.frames ∧ 8 + (maxL + 11) + rm.locals ≤ R.locals)
    (hn : As.length = n) (hsz : ls.size = nL) (hst : st0 = As.reverse ++ rest) (hW : (rest.map fun v => v.category).sum ≤ 8) (hf : cells + nc ≤ R.cells ∧ slots + ns ≤ R.slots) (hdg : decode cc pc = .ok (.invokestatic index, 3))
    (kk : ∀ (H2 : Heap) (locs2 : List Loc) (v : Option Value), va_S D H H2 locs2 → va_S D1 H1 H2 [] → P v H2 → GK G H2 s → W p l e R s m args below meth c H2 locs2 (cells + nc) (slots + ns) Q (F0 m (pc + 3) ls (v.toList ++ rest))) : W p l e R s m args below meth c H1 locs cells slots Q (F0 m pc ls st0) :=
  mw_run As.toArray hD hG hS hD1 (va_runS S hH (va_cwS n S.2.2.2.2 hT hw h0.1 h0.2 hd.2 hR) ⟨mw_blind, fun U hU hWW => ⟨rfl, hU, GK.warm hWW hG, GX.warm hWW hGX⟩⟩ rfl hn hsz hst (lv_room hW) hdg hf) kk
end QMS
theorem nmJ7_copyOf_6403c : nmV yJ7_copyOf_6403c RJ7 3 := by decide +kernel
theorem nmJ7_copyOf_1904c : nmV yJ7_copyOf_1904c RJ7 2 := by decide +kernel
/-- the objects of r are of class C -/
def elC (G : GT) (H : Heap) (C : String) (n : Nat) (r : Nat → Option Nat) : Prop := ∀ u : State, GV G u → ∀ i y : Nat, i < n → r i = some y → ∃ cellV : Cell, H[y]? = some cellV ∧ cellV.vm.isStatics = false ∧ u.vm.findClass C = some cellV.cls
theorem elC_ext {G : GT} {H H1 : Heap} {C : String} {n : Nat} {r : Nat → Option Nat} (h : elC G H C n r) (hx : ext H H1) : elC G H1 C n r := fun u hu i y hi hy => by
  obtain ⟨cv, h1, h2⟩ := h u hu i y hi hy
  exact ⟨cv, by rw [hx.2 y (Array.getElem?_eq_some_iff.mp h1).1]; exact h1, h2⟩
set_option maxHeartbeats 1000000 in
theorem c_J7_copyOf_6403c (l : Launch) (G : GT) (H : Heap) (hz : G.2.2.1 ≤ H.size) (a0 n n2 : Nat) (r : Nat → Option Nat) (C : String) (hC : Cond.castable C "java/lang/Object" ∈ tables_1) (hn : n ≤ n2) (hn2 : n2 ≤ 40) (ha0 : va_at G.1 vwCl (a0, .inl (G.2.1 1, gRef n r)) H) (hel : elC G H C n r) :
    MwV l G (fun q => H.size ≤ q) H yJ7_copyOf_6403c wsJ7_copyOf_6403c { frames := 1, cells := 1, slots := 40, locals := 40 } [.ref a0, .int (nI n2), .ref (G.2.2.2 3)] 1 40 (fun v t => v = some (.ref H.size) ∧ va_at G.1 vwCl (H.size, .inl (G.2.1 1, gRef n2 (va_cpy r (fun _ => none) 0 0 n))) t ∧ ext H t) := by
  refine mw_of (cc := cJ7_copyOf_6403c) (maxL := 4) (ret := (some (.array (.object "java/lang/Object")))) (by decide) rfl (Nat.le_of_ble_eq_true rfl) ?_
  intro pZ eZ sZ mZ bZ meZ cZ ls S hr hlk hl hHs hG hGX
  have S : CallFix pZ mZ cZ cJ7_copyOf_6403c 4 sZ _ wsJ7_copyOf_6403c RJ7 := S
  have hx := S.1
  have hb := S.2.1
  have hown := S.2.2.2.1
  have hts := S.2.2.2.2
  have hl : lv_has ls 4 [(0, .ref a0), (1, .int (nI n2)), (2, .ref (G.2.2.2 3))] := hl
  have hD : DP G (fun q => H.size ≤ q) H.size := dp_new hz
  have hS : va_S (fun q => H.size ≤ q) H H [] := va_S.rf
  have w1 := hts (.classLink RJ7 110 "[Ljava/lang/Object;") (by decide +kernel)
  have w2 := hts (.classLink RJ7 2 "java/lang/Object") (by decide +kernel)
  have w3 := hts (.methodLink RJ7 150 arraycopyName) (by decide +kernel)
  have w4 := hts (.native arraycopyName) (by decide +kernel)
  have w5 := hts (.static arraycopyName) (by decide +kernel)
  have w6 := hts (.initialized "java/lang/System") (by decide +kernel)
  have hmin : [.methodLink RJ7 304 Lib.Math.min.name, .static Lib.Math.min.name, .initialized "java/lang/Math", .code Lib.Math.min.name Lib.Math.min.code 2 (some .int)] ⊆ wsJ7_copyOf_6403c := by decide +kernel
  refine lv_aload_n hx hb dJ7_copyOf_6403c_0 rfl (lv_at hl 2 rfl) ?_
  refine va_ldcM hx hb hown w1 hG.1.2.2.2 dJ7_copyOf_6403c_1 ?_
  refine lv_acmp_ne (rx := some (G.2.2.2 3)) (ry := some (G.2.2.2 3)) (tgt := 13) hx hb dJ7_copyOf_6403c_3 (by decide) (fun c => absurd rfl c) (fun _ => ?_)
  refine lv_iload_n hx hb dJ7_copyOf_6403c_6 rfl (lv_at hl 1 rfl) ?_
  refine mw_newq (N := n2) S hGX hG w2 (nI_pos (by omega)) (nI_clamp (by omega)) (by omega) ⟨by show 0 + 1 ≤ 1; omega, by show 0 + n2 ≤ 40; omega⟩ dJ7_copyOf_6403c_7 (fun H1 ha1 hz1 hx1 => ?_)
  have hG1 := gk_ext hx1 hG
  have hS1 := vs_new hS hx1
  have ha01 := va_at.kept ha0 (hx1.2 _ (va_at.lt ha0))
  refine lv_goto (tgt := 24) hx hb dJ7_copyOf_6403c_10 (by decide) ?_
  refine lv_astore_n (lv' := [(3, .ref H.size), (0, .ref a0), (1, .int (nI n2)), (2, .ref (G.2.2.2 3))]) hx hb dJ7_copyOf_6403c_24 rfl hl (by decide) rfl (fun ls hl => ?_)
  refine lv_aload_n hx hb dJ7_copyOf_6403c_25 rfl (lv_at hl 1 rfl) ?_
  refine lv_iconst (v := 0) hx hb dJ7_copyOf_6403c_26 (by decide) ?_
  refine lv_aload_n hx hb dJ7_copyOf_6403c_27 rfl (lv_at hl 0 rfl) ?_
  refine lv_iconst (v := 0) hx hb dJ7_copyOf_6403c_28 (by decide) ?_
  refine lv_aload_n hx hb dJ7_copyOf_6403c_29 rfl (lv_at hl 1 rfl) ?_
  refine va_alen hx hb hG1.1.1 (q_P1 ha01) 0 1 rfl rfl (v := nI n) rfl dJ7_copyOf_6403c_30 ?_
  refine lv_iload_n hx hb dJ7_copyOf_6403c_31 rfl (lv_at hl 2 rfl) ?_
  refine rd_min S hl.1 hmin ⟨Nat.le_of_ble_eq_true rfl, Nat.le_of_ble_eq_true rfl⟩ (Nat.le_of_ble_eq_true rfl) ⟨by show 0 + 1 ≤ 1; omega, by show 0 + n2 ≤ 40; omega⟩ dJ7_copyOf_6403c_32 ?_
  have emin : (if nI n2 < nI n then nI n2 else nI n) = nI n := if_neg (nI_nlt (by omega) (by omega))
  rw [emin]
  refine W.eq (g2 := F0 mZ 35 ls [.int (nI n), .int 0, .ref H.size, .int 0, .ref a0]) rfl ?_
  refine mw_cpy (C := C) S hD hG1 hS1 hl.1 w3 w4 w5 w6 (Nat.le_refl _) ha01 ha1 (by omega) (Nat.le_refl _) hn (fun i y hi hy => elC_ext hel hx1 sZ hG.1 i y hi hy) (hG.1.2.1 _ hC rfl) ⟨Nat.le_of_ble_eq_true rfl, Nat.le_of_ble_eq_true rfl⟩ dJ7_copyOf_6403c_35 (fun H2 locs2 hn2' hz2 hq2 hS2 hG2 => ?_)
  refine lv_aload_n hx hb dJ7_copyOf_6403c_38 rfl (lv_at hl 0 rfl) ?_
  exact mw_aret S hr (Or.inr ⟨_, rfl⟩) (Or.inr ⟨_, rfl⟩) hlk hS2 ⟨by show 0 + 1 ≤ 1; omega, by show 0 + n2 ≤ 40; omega⟩ dJ7_copyOf_6403c_39 ⟨rfl, hn2', ext_of hS2⟩
set_option maxHeartbeats 1000000 in
theorem c_J7_copyOf_1904c (l : Launch) (G : GT) (H : Heap) (hz : G.2.2.1 ≤ H.size) (a0 n n2 : Nat) (r : Nat → Option Nat) (C : String) (hC : Cond.castable C "java/lang/Object" ∈ tables_1) (hn : n ≤ n2) (hn2 : n2 ≤ 40) (ha0 : va_at G.1 vwCl (a0, .inl (G.2.1 1, gRef n r)) H) (hel : elC G H C n r) :
    MwV l G (fun q => H.size ≤ q) H yJ7_copyOf_1904c wsJ7_copyOf_1904c { frames := 2, cells := 1, slots := 40, locals := 64 } [.ref a0, .int (nI n2)] 1 40 (fun v t => v = some (.ref H.size) ∧ va_at G.1 vwCl (H.size, .inl (G.2.1 1, gRef n2 (va_cpy r (fun _ => none) 0 0 n))) t ∧ ext H t) := by
  refine mw_of (cc := cJ7_copyOf_1904c) (maxL := 2) (ret := (some (.array (.object "java/lang/Object")))) (by decide) rfl (Nat.le_of_ble_eq_true rfl) ?_
  intro pZ eZ sZ mZ bZ meZ cZ ls S hr hlk hl hHs hG hGX
  have S : CallFix pZ mZ cZ cJ7_copyOf_1904c 2 sZ _ wsJ7_copyOf_1904c RJ7 := S
  have hx := S.1
  have hb := S.2.1
  have hown := S.2.2.2.1
  have hts := S.2.2.2.2
  have hl : lv_has ls 2 [(0, .ref a0), (1, .int (nI n2))] := hl
  have hD : DP G (fun q => H.size ≤ q) H.size := dp_new hz
  have hS : va_S (fun q => H.size ≤ q) H H [] := va_S.rf
  refine lv_aload_n hx hb dJ7_copyOf_1904c_0 rfl (lv_at hl 0 rfl) ?_
  refine lv_iload_n hx hb dJ7_copyOf_1904c_1 rfl (lv_at hl 1 rfl) ?_
  refine lv_aload_n hx hb dJ7_copyOf_1904c_2 rfl (lv_at hl 0 rfl) ?_
  have hcell : ∃ cell : Cell, H[a0]? = some cell ∧ cell.vm.isStatics = false ∧ sZ.vm.findClass "[Ljava/lang/Object;" = some cell.cls := by
    obtain ⟨kB, c2, k1, k2, k3, k4⟩ := (hG.1.1.2 1 _ rfl).2
    exact ⟨_, ha0, rfl, k4⟩
  have hdc : Cond.declares ⟨"java/lang/Object", "getClass", "()Ljava/lang/Class;"⟩ ∈ tables_1 := by decide +kernel
  refine va_getC (C := "[Ljava/lang/Object;") hx hb (S.2.2.1.trans hl.1.symm) hown (hts (.methodLink RJ7 86 ⟨"java/lang/Object", "getClass", "()Ljava/lang/Class;"⟩) (by decide +kernel)) (va_Nw.use rfl (hG.1.2.1 _ hdc rfl)) (hts (.selects "[Ljava/lang/Object;" ⟨"java/lang/Object", "getClass", "()Ljava/lang/Class;"⟩ ⟨"java/lang/Object", "getClass", "()Ljava/lang/Class;"⟩) (by decide +kernel)) (hts (.instanceMethod ⟨"java/lang/Object", "getClass", "()Ljava/lang/Class;"⟩) (by decide +kernel)) (hts (.native ⟨"java/lang/Object", "getClass", "()Ljava/lang/Class;"⟩) (by decide +kernel)) hG.1.2.2.2 hcell (Nat.le_of_ble_eq_true rfl) (Nat.le_of_ble_eq_true rfl) dJ7_copyOf_1904c_3 ?_
  refine mw_S (As := [.ref a0, .int (nI n2), .ref (G.2.2.2 3)]) (rest := []) S hD hGX hG hS (c_J7_copyOf_6403c l G H hz a0 n n2 r C hC hn hn2 ha0 hel) (fun q h => h) gJ7_copyOf_1904c_J7_copyOf_6403c rfl ⟨rfl, rfl⟩ nmJ7_copyOf_6403c ⟨Nat.le_of_ble_eq_true rfl, Nat.le_of_ble_eq_true rfl⟩ rfl hl.1 rfl (Nat.le_of_ble_eq_true rfl) ⟨Nat.le_of_ble_eq_true rfl, Nat.le_of_ble_eq_true rfl⟩ dJ7_copyOf_1904c_6 (fun H2 locs2 v hS2 hs2 hP2 hG2 => ?_)
  obtain ⟨hv, h1, h2⟩ := hP2
  subst hv
  exact mw_aret S hr (Or.inr ⟨_, rfl⟩) (Or.inr ⟨_, rfl⟩) hlk hS2 ⟨Nat.le_of_ble_eq_true rfl, Nat.le_of_ble_eq_true rfl⟩ dJ7_copyOf_1904c_9 ⟨rfl, h1, h2⟩
