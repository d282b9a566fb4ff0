/-! the law's start -/
section QNL
variable {p : Program} {l : Launch} {e : Env} {R : Room} {s : State} {m : MethodId} {args : Array Value} {below : List Frame} {meth : Method} {c : Code} {H H1 : Heap} {locs : List Loc} {cells slots : Nat} {Q : State → Prop}
variable {Ts : List Cond} {cc : ByteArray} {nL : Nat} {own : String} {pc : Nat} {rest : List Value} {ls : Array Slot} {G : GT}
theorem mw_newL {i : Int32} {N : Nat} (S : CallFix p m c cc nL s args Ts own) (hG : GK G H1 s) (harr : (Cond.arrayClass .long).before args s = true) (hn : ¬ i < 0) (hN : i.toNatClampNeg = N) (hb : N * 8 ≤ 536870912) (hf : cells + 1 ≤ R.cells ∧ slots + N ≤ R.slots) (hdg : decode cc pc = .ok (.newarray .long, 2))
    (kk : ∀ H2 : Heap, va_at G.1 vwCl (H1.size, .inl (G.2.1 3, N, .inr (.inl (fun _ => 0)))) H2 → H2.size = H1.size + 1 → ext H1 H2 → W p l e R s m args below meth c H2 locs (cells + 1) (slots + N) Q (F0 m (pc + 2) ls (.ref H1.size :: rest))) : W p l e R s m args below meth c H1 locs cells slots Q (F0 m pc ls (.int i :: rest)) := by
  refine va_newaK (atype := .long) S.1 S.2.1 harr rfl hdg rfl hn hN hb hf.1 hf.2 rfl fun H2 cA e1 z1 o1 _ hNm => ?_
  have hc : cA = G.2.1 3 := by
    have h2 := (hG.1.1.2 3 _ rfl).2
    exact Option.some.inj ((show s.vm.findClass ("[" ++ FieldType.long.toString) = some cA from hNm).symm.trans h2)
  subst hc
  exact kk H2 e1 z1 ⟨by omega, o1⟩
theorem mw_newD {i : Int32} {N : Nat} (S : CallFix p m c cc nL s args Ts own) (hG : GK G H1 s) (harr : (Cond.arrayClass .double).before args s = true) (hn : ¬ i < 0) (hN : i.toNatClampNeg = N) (hb : N * 8 ≤ 536870912) (hf : cells + 1 ≤ R.cells ∧ slots + N ≤ R.slots) (hdg : decode cc pc = .ok (.newarray .double, 2))
    (kk : ∀ H2 : Heap, va_at G.1 vwCl (H1.size, .inl (G.2.1 4, N, .inr (.inr (.inr (.inl (fun _ => 0)))))) H2 → H2.size = H1.size + 1 → ext H1 H2 → W p l e R s m args below meth c H2 locs (cells + 1) (slots + N) Q (F0 m (pc + 2) ls (.ref H1.size :: rest))) : W p l e R s m args below meth c H1 locs cells slots Q (F0 m pc ls (.int i :: rest)) := by
  refine va_newaK (atype := .double) S.1 S.2.1 harr rfl hdg rfl hn hN hb hf.1 hf.2 rfl fun H2 cA e1 z1 o1 _ hNm => ?_
  have hc : cA = G.2.1 4 := by
    have h2 := (hG.1.1.2 4 _ rfl).2
    exact Option.some.inj ((show s.vm.findClass ("[" ++ FieldType.double.toString) = some cA from hNm).symm.trans h2)
  subst hc
  exact kk H2 e1 z1 ⟨by omega, o1⟩
end QNL
theorem inlX7 : ∀ w ∈ wsX70, w ∈ wsL_law := fun _ h => List.mem_append_left _ (List.mem_append_left _ (List.mem_append_left _ (List.mem_append_left _ (List.mem_append_left _ (List.mem_append_left _ (List.mem_append_left _ (List.mem_append_left _ (List.mem_append_left _ (List.mem_append_left _ (List.mem_append_left _ (List.mem_append_left _ (List.mem_append_left _ (List.mem_append_left _ (List.mem_append_left _ (List.mem_append_left _ (List.mem_append_right _ h))))))))))))))))
theorem inlX11 : ∀ w ∈ wsX110, w ∈ wsL_law := fun _ h => List.mem_append_left _ (List.mem_append_left _ (List.mem_append_left _ (List.mem_append_left _ (List.mem_append_left _ (List.mem_append_left _ (List.mem_append_left _ (List.mem_append_left _ (List.mem_append_left _ (List.mem_append_left _ (List.mem_append_left _ (List.mem_append_left _ (List.mem_append_left _ (List.mem_append_left _ (List.mem_append_left _ (List.mem_append_right _ h)))))))))))))))
section QLS
variable {p : Program} {l : Launch} {e : Env} {s : State} {m : MethodId} {args : Array Value} {below : List Frame} {meth : Method} {c : Code} {Q : State → Prop} {G : GT} {b : Nat} {ls : Array Slot}
set_option maxHeartbeats 4000000 in
set_option maxRecDepth 100000 in
theorem law_start (S : CallFix p m c cL_law 9 s args wsL_law RL) (hz : G.2.2.1 = s.heap.size) (hG : GK G s.heap s) (hX : GX s) (hl : lv_has ls 9 [(0, .ref b)])
    (kk : ∀ (H : Heap) (locs : List Loc) (ls2 : Array Slot), qLW G s 0 f0 g0 H locs → lv_has ls2 9 [(5, .int (nI 0)), (0, .ref b), (1, .ref s.heap.size), (2, .ref (s.heap.size + 47)), (3, .ref (s.heap.size + 55)), (4, .ref (s.heap.size + 56))] → W p l e room_1 s m args below meth c H locs (0 + 1 + 46 + 1 + 7 + 1 + 1) (0 + 8 + 500 + 11 + 23 + 1 + 1) Q (F0 m 28 ls2 [])) : W p l e room_1 s m args below meth c s.heap [] 0 0 Q (F0 m 0 ls []) := by
  have hx := S.1
  have hb := S.2.1
  have hts := S.2.2.2.2
  have hD : DP G (fun q => s.heap.size ≤ q) s.heap.size := ⟨fun q hq => hq, fun q hq => by rw [hz]; exact hq⟩
  have hS0 : va_S (fun q => s.heap.size ≤ q) s.heap s.heap [] := va_S.rf
  refine mw_new (fs := [.null, .null, .null, .null, .null, .null, .int 0, .int 0]) (ci := 8) S hG inlX7 tyX7 tyX7_ok (hts (.classLink RL 8 RX7) (by decide +kernel)) (hts (.instantiable RX7 8) (by decide +kernel)) (hts (.initialized RX7) (by decide +kernel)) rfl (fun j hj => match j, hj with | 0, _ => rfl | 1, _ => rfl | 2, _ => rfl | 3, _ => rfl | 4, _ => rfl | 5, _ => rfl | 6, _ => rfl | 7, _ => rfl | _ + 8, h => absurd h (by omega)) ⟨Nat.le_of_ble_eq_true rfl, Nat.le_of_ble_eq_true rfl⟩ dL_law_0 (fun H1 ha1 hz1 hx1 => ?_)
  have hG1 := gk_ext hx1 hG
  have hS1 := vs_new hS0 hx1
  refine lv_dup hx hb dL_law_3 rfl ?_
  refine mw_I (As := []) (rest := [.ref s.heap.size]) S hD hX hG1 hS1 (c_X7_init l G H1 s.heap.size (by omega) (by omega) hz1 ha1) (fun q h => h.elim (fun e => Nat.le_of_eq e.symm) (fun h => Nat.le_trans hS1.1 h)) gL_law_X7_init rfl ⟨rfl, rfl⟩ (hts (.initialized RX7) (by decide +kernel)) (hts (.methodLink RL 102 yX7_init) (by decide +kernel)) (hts (.instanceMethod yX7_init) (by decide +kernel)) rfl nmX7_init ⟨Nat.le_of_ble_eq_true rfl, Nat.le_of_ble_eq_true rfl⟩ rfl hl.1 rfl (Nat.le_of_ble_eq_true rfl) ⟨Nat.le_of_ble_eq_true rfl, Nat.le_of_ble_eq_true rfl⟩ dL_law_4 (fun H2 locs2 v2 hS2 hs2 hP2 hG2 => ?_)
  obtain ⟨hv2, hR2, hz2, hq2⟩ := hP2
  subst hv2
  refine W.eq (g2 := F0 m 7 ls [.ref s.heap.size]) rfl ?_
  refine lv_astore_n (lv' := [(1, .ref s.heap.size), (0, .ref b)]) hx hb dL_law_7 rfl hl (by decide) rfl (fun ls hl => ?_)
  refine mw_new (fs := [.int 0, .int 0, .int 0, .int 0, .null, .null, .null, .null, .null, .null, .null]) (ci := 12) S hG2 inlX11 tyX11 tyX11_ok (hts (.classLink RL 103 RX11) (by decide +kernel)) (hts (.instantiable RX11 11) (by decide +kernel)) (hts (.initialized RX11) (by decide +kernel)) rfl (fun j hj => match j, hj with | 0, _ => rfl | 1, _ => rfl | 2, _ => rfl | 3, _ => rfl | 4, _ => rfl | 5, _ => rfl | 6, _ => rfl | 7, _ => rfl | 8, _ => rfl | 9, _ => rfl | 10, _ => rfl | _ + 11, h => absurd h (by omega)) ⟨Nat.le_of_ble_eq_true rfl, Nat.le_of_ble_eq_true rfl⟩ dL_law_8 (fun H3 ha3 hz3 hx3 => ?_)
  have hG3 := gk_ext hx3 hG2
  have hS3 := vs_new hS2 hx3
  rw [hz2] at ha3 hz3 ⊢
  have hR3 : qLRP G s f0 g0 H3 := ⟨hR2.1, fun j hj => (hR2.2 j hj).kept (hx3.2 _ (hR2.2 j hj).lt)⟩
  refine lv_dup hx hb dL_law_11 rfl ?_
  refine mw_I (As := []) (rest := [.ref (s.heap.size + 47)]) S hD hX hG3 hS3 (c_X11_init l G H3 (s.heap.size + 47) (qlD s.heap.size) (fun q h1 h2 => ⟨h1, by omega, by omega⟩) (by omega) (by omega) hz3 ha3) (fun q h => h.elim (fun e => by show s.heap.size ≤ q; omega) (fun h => Nat.le_trans hS3.1 h)) gL_law_X11_init rfl ⟨rfl, rfl⟩ (hts (.initialized RX11) (by decide +kernel)) (hts (.methodLink RL 105 yX11_init) (by decide +kernel)) (hts (.instanceMethod yX11_init) (by decide +kernel)) rfl nmX11_init ⟨Nat.le_of_ble_eq_true rfl, Nat.le_of_ble_eq_true rfl⟩ rfl hl.1 rfl (Nat.le_of_ble_eq_true rfl) ⟨Nat.le_of_ble_eq_true rfl, Nat.le_of_ble_eq_true rfl⟩ dL_law_12 (fun H4 locs4 v4 hS4 hs4 hP4 hG4 => ?_)
  obtain ⟨hv4, hM4, hz4, hq4⟩ := hP4
  subst hv4
  have hR4 : qLRP G s f0 g0 H4 := ⟨hR3.1, fun j hj => (hR3.2 j hj).kept (hq4 _ (A0_lt hj))⟩
  refine W.eq (g2 := F0 m 15 ls [.ref (s.heap.size + 47)]) rfl ?_
  refine lv_astore_n (lv' := [(2, .ref (s.heap.size + 47)), (1, .ref s.heap.size), (0, .ref b)]) hx hb dL_law_15 rfl hl (by decide) rfl (fun ls hl => ?_)
  refine lv_iconst (v := 1) hx hb dL_law_16 (by decide) ?_
  refine mw_newL (N := 1) S hG4 (hts (.arrayClass .long) (by decide +kernel)) (by decide) (by decide) (Nat.le_of_ble_eq_true rfl) ⟨Nat.le_of_ble_eq_true rfl, Nat.le_of_ble_eq_true rfl⟩ dL_law_17 (fun H5 ha5 hz5 hx5 => ?_)
  have hG5 := gk_ext hx5 hG4
  have hS5 := vs_new hS4 hx5
  rw [hz4] at ha5 hz5 ⊢
  have hR5 : qLRP G s f0 g0 H5 := ⟨hR4.1, fun j hj => (hR4.2 j hj).kept (hx5.2 _ (hR4.2 j hj).lt)⟩
  have hM5 : qLM G s 0 f0 g0 H5 := by
    obtain ⟨B, mc, cp, m1, m2⟩ := hM4
    exact ⟨B, mc, cp, mp_ext m1 hx5, m2⟩
  refine lv_astore_n (lv' := [(3, .ref (s.heap.size + 55)), (2, .ref (s.heap.size + 47)), (1, .ref s.heap.size), (0, .ref b)]) hx hb dL_law_19 rfl hl (by decide) rfl (fun ls hl => ?_)
  refine lv_iconst (v := 1) hx hb dL_law_20 (by decide) ?_
  refine mw_newD (N := 1) S hG5 (hts (.arrayClass .double) (by decide +kernel)) (by decide) (by decide) (Nat.le_of_ble_eq_true rfl) ⟨Nat.le_of_ble_eq_true rfl, Nat.le_of_ble_eq_true rfl⟩ dL_law_21 (fun H6 ha6 hz6 hx6 => ?_)
  have hS6 := vs_new hS5 hx6
  rw [hz5] at ha6 hz6 ⊢
  have hR6 : qLRP G s f0 g0 H6 := ⟨hR5.1, fun j hj => (hR5.2 j hj).kept (hx6.2 _ (hR5.2 j hj).lt)⟩
  have hM6 : qLM G s 0 f0 g0 H6 := by
    obtain ⟨B, mc, cp, m1, m2⟩ := hM5
    exact ⟨B, mc, cp, mp_ext m1 hx6, m2⟩
  refine lv_astore (lv' := [(4, .ref (s.heap.size + 56)), (3, .ref (s.heap.size + 55)), (2, .ref (s.heap.size + 47)), (1, .ref s.heap.size), (0, .ref b)]) hx hb dL_law_23 hl (by decide) rfl (fun ls hl => ?_)
  refine lv_iconst (v := 0) hx hb dL_law_25 (by decide) ?_
  refine lv_istore (lv' := [(5, .int 0), (4, .ref (s.heap.size + 56)), (3, .ref (s.heap.size + 55)), (2, .ref (s.heap.size + 47)), (1, .ref s.heap.size), (0, .ref b)]) hx hb dL_law_26 hl (by decide) rfl (fun ls hl => ?_)
  exact kk H6 locs4 ls ⟨hR6, li_0, hM6, ⟨_, va_at.kept ha5 (hx6.2 _ (by omega))⟩, ⟨_, ha6⟩, by omega, hS6⟩ (lv_sub hl [0, 5, 4, 3, 2, 1] rfl)
end QLS
