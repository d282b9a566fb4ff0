/-! an object into an array of objects -/
section QAA
variable {p : Program} {l : Launch} {e : Env} {R : Room} {s : State} {m : MethodId} {args : Array Value} {below : List Frame} {meth : Method} {c : Code} {H H1 : Heap} {locs : List Loc} {cells slots : Nat} {Q : State → Prop}
variable {Ts ws ws' : List Cond} {cc bytes : ByteArray} {nL maxL index : Nat} {own : String} {a pc : Nat} {rest : List Value} {ls : Array Slot} {G : GT} {D : Nat → Prop}
theorem mw_aast {C : String} {n x : Nat} {r : Nat → Option Nat} {i : Int32} (S : CallFix p m c cc nL s args Ts own) (hD : DP G D H.size) (hG : GK G H1 s) (hS : va_S D H H1 locs) (hda : D a) (hat : va_at G.1 vwCl (a, .inl (G.2.1 1, gRef n r)) H1) (hcast : va_Nw (.castable C "java/lang/Object") s) (he : ∃ cellV : Cell, H1[x]? = some cellV ∧ cellV.vm.isStatics = false ∧ s.vm.findClass C = some cellV.cls) (hin : vp_in i n) (hdg : decode cc pc = .ok (.aastore, 1))
    (kk : ∀ (H2 : Heap) (locs2 : List Loc), va_at G.1 vwCl (a, .inl (G.2.1 1, gRef n (va_up r i.toNatClampNeg (some x)))) H2 → H2.size = H1.size → (∀ q : Nat, q ≠ a → H2[q]? = H1[q]?) → va_S D H H2 locs2 → GK G H2 s → W p l e R s m args below meth c H2 locs2 cells slots Q (F0 m (pc + 1) ls rest)) : W p l e R s m args below meth c H1 locs cells slots Q (F0 m pc ls (.ref x :: .int i :: .ref a :: rest)) := by
  have hlt : i.toNatClampNeg < n := Nat.not_le.mp fun q => hin (Or.inr q)
  have h0 : ¬ i < 0 := fun q => hin (Or.inl q)
  obtain ⟨cellV, g1, g3, g2⟩ := he
  obtain ⟨kA, comp, k1, k2, k3, -⟩ := (hG.1.1.2 1 _ rfl).2
  obtain ⟨kE, hkE, -⟩ := Vm.findClass_spec k3
  obtain ⟨c0, t1, f1, f2, f3⟩ := Cond.castable_spec (va_Nw.use (A := args) rfl hcast)
  cases g2.symm.trans f1
  cases k3.symm.trans f2
  obtain ⟨kC, hkC, -⟩ := Vm.findClass_spec g2
  refine W.aast S.1 S.2.1 hat (fun q h => by cases h) (fun h => by cases h) k1 k2 rfl hkE ⟨h0, by show _ < (arrV _ _ _).slots.size; rw [arrV_size]; exact hlt⟩ g1 (fun q h => by rw [h] at g3; cases g3) hkC f3 rfl rfl hdg fun H2 e1 z oq => ?_
  refine kk H2 _ ?_ z oq (hS.put z oq hda) (hG.heap fun q _ hz => oq q fun e => hz (by rw [e]; exact hD.2 a hda))
  show H2[a]? = some (vp_cell _ _)
  rw [e1]
  rw [vp_cell_q, vp_cell_q, arrV_store]
  congr 2
  funext q
  by_cases hq : q = i.toNatClampNeg
  · subst hq
    simp [updV, va_up, va_rf]
  · simp [updV, va_up, hq]
end QAA
theorem nmJx4a65c_grow_d5877 : nmV yJx4a65c_grow_d5877 RJx4a65c 0 := by decide +kernel
set_option maxHeartbeats 1000000 in
theorem c_grow_d (l : Launch) (G : GT) (H : Heap) (hz : G.2.2.1 ≤ H.size) (h : Nat) (hzh : G.2.2.1 ≤ h) (mc : Int32) (a n : Nat) (h1 : va_at G.1 vwCl (h, lsO mc a n) H) (P : Option Value → Heap → Prop) (hv : ∀ v t, P v t → v = some (.ref H.size)) (hin : MwV l G (fun q => q = h ∨ H.size ≤ q) H yJx4a65c_grow_92f84 wsJx4a65c_grow_92f84 { frames := 4, cells := 1, slots := 40, locals := 100 } [.ref h, .int (nI (n + 1))] 1 40 P) :
    MwV l G (fun q => q = h ∨ H.size ≤ q) H yJx4a65c_grow_d5877 wsJx4a65c_grow_d5877 { frames := 5, cells := 1, slots := 40, locals := 130 } [.ref h] 1 40 P := by
  refine mw_of (cc := cJx4a65c_grow_d5877) (maxL := 1) (ret := (some (.array (.object "java/lang/Object")))) (by decide) rfl (Nat.le_of_ble_eq_true rfl) ?_
  intro pZ eZ sZ mZ bZ meZ cZ ls S hr hlk hl hHs hG hGX
  have S : CallFix pZ mZ cZ cJx4a65c_grow_d5877 1 sZ _ wsJx4a65c_grow_d5877 RJx4a65c := S
  have hx := S.1
  have hb := S.2.1
  have hts := S.2.2.2.2
  have hl : lv_has ls 1 [(0, .ref h)] := hl
  have hD : DP G (fun q => q = h ∨ H.size ≤ q) H.size := ⟨fun q h => Or.inr h, fun q h => h.elim (fun e => by rw [e]; exact hzh) (Nat.le_trans hz)⟩
  have hS : va_S (fun q => q = h ∨ H.size ≤ q) H H [] := va_S.rf
  have iL : ∀ w ∈ u_ws RJx4a65c TJx4a65c 3, w ∈ wsJx4a65c_grow_d5877 := by decide +kernel
  have w1 := hts (.fieldLink RJx4a65c 48 "java/util/ArrayList" "size" "I") (by decide +kernel)
  refine lv_aload_n hx hb dJx4a65c_grow_d5877_0 rfl (lv_at hl 0 rfl) ?_
  refine lv_aload_n hx hb dJx4a65c_grow_d5877_1 rfl (lv_at hl 0 rfl) ?_
  refine rd_get (own := RJx4a65c) (x := .int (nI n)) S hG.1 iL h1 2 rfl (by decide) w1 rfl dJx4a65c_grow_d5877_2 ?_
  refine lv_iconst (v := 1) hx hb dJx4a65c_grow_d5877_5 (by decide) ?_
  refine lv_iadd hx hb dJx4a65c_grow_d5877_6 ?_
  refine W.eq (g2 := F0 mZ 7 ls [.int (nI (n + 1)), .ref h]) (by rw [nI_1]) ?_
  refine mw_V (As := [.int (nI (n + 1))]) (rest := []) S hD hGX hG hS hin (fun q h => h) gJx4a65c_grow_d5877_Jx4a65c_grow_92f84 rfl ⟨rfl, rfl⟩ nmJx4a65c_grow_92f84 ⟨Nat.le_of_ble_eq_true rfl, Nat.le_of_ble_eq_true rfl⟩ (rd_rcv hG.1 h1 rfl) rfl hl.1 rfl (Nat.le_of_ble_eq_true rfl) ⟨Nat.le_of_ble_eq_true rfl, Nat.le_of_ble_eq_true rfl⟩ dJx4a65c_grow_d5877_7 (fun H1 locs1 v hS1 hs1 hP1 hG1 => ?_)
  have e := hv v H1 hP1
  subst e
  exact mw_aret S hr (Or.inr ⟨_, rfl⟩) (Or.inr ⟨_, rfl⟩) hlk hS1 ⟨Nat.le_of_ble_eq_true rfl, Nat.le_of_ble_eq_true rfl⟩ dJx4a65c_grow_d5877_10 hP1
