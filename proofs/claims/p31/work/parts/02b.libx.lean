/-! ===== my own library: methods that answer or throw, and leave the heap's old cells as they are ===== -/
def ext (H H1 : Heap) : Prop := H.size ≤ H1.size ∧ ∀ q : Nat, q < H.size → H1[q]? = H[q]?
/-- a method that answers v and leaves the heap H (ko none), or throws an E (ko some E) with new cells alone -/
def RxV (l : Launch) (G : GT) (H : Heap) (y : MethodName) (ws : List Cond) (rm : Room) (av : List Value) (ko : Option String) (v : Option Value) : Prop :=
  vx_Met l y ws rm (va_Pc av (fun U => U.heap = H ∧ GK G H U)) (fun _ _ o t => ko = none ∧ o = .returned v ∧ t.heap = H) (fun E _ t => ko = some E ∧ ext H t.heap) 1 6 (fun _ => False)
abbrev rx_Q (below : List Frame) (H : Heap) (av : List Value) (s : State) (ko : Option String) (v : Option Value) : State → Prop := vx_MQ below (fun _ _ o t => ko = none ∧ o = .returned v ∧ t.heap = H) (fun E _ t => ko = some E ∧ ext H t.heap) av.toArray s 1 6 (fun _ => False)
theorem rx_of {l : Launch} {G : GT} {H : Heap} {y : MethodName} {ws ws' : List Cond} {rm : Room} {av : List Value} {ko : Option String} {v : Option Value} {cc : ByteArray} {maxL : Nat} {ret : Option FieldType}
    (hy : plainName y.cls = true) (hw : ws = Cond.code y cc maxL ret :: ws') (ha : (lg_sl av).length ≤ maxL)
    (body : ∀ (p : Program) (e : Env) (s : State) (m : MethodId) (below : List Frame) (meth : Method) (c : Code) (ls : Array Slot), CallFix p m c cc maxL s av.toArray ws y.cls → meth.sig.returnType = ret → meth.locks = false → (∀ x ∈ c.exceptionTable.toList, False) → lv_has ls maxL (lv_args 0 av) → s.heap = H → GK G H s →
      W p l e rm s m av.toArray below meth c H [] 0 0 (rx_Q below H av s ko v) (F0 m 0 ls [])) : RxV l G H y ws rm av ko v := by
  refine vx_ofW (cc := cc) (maxL := maxL) (ret := ret) hy hw ?_
  intro p e s m args below meth c s₁ B hml hxt hv
  obtain ⟨rfl, hH, hG⟩ := hv
  have hl := lv_entry av (n := maxL) ha
  rw [lg_entry_eq, hH]
  exact body p e s m below meth c _ ⟨B.exec, B.bytes, hml, findClass_of_methodNamed B.named, atoms_spec (ws := ws) B.pre⟩ B.returns B.notSynchronized hxt hl hH hG
theorem stand_back {p : Program} {l : Launch} {e : Env} {R : Room} {s : State} {m : MethodId} {args : Array Value} {below : List Frame} {meth : Method} {c : Code} {T T' : State} {locs : List Loc} {cells slots cells' slots' : Nat}
    (X : Stand p l e R s m args below meth c T locs cells slots) (X' : Stand p l e R s m args below meth c T' locs cells' slots') (hh : T'.heap = T.heap) : Stand p l e R s m args below meth c T' locs cells slots := by
  have hv : (T'.setVm s.vm).heap = (T.setVm s.vm).heap := hh
  exact ⟨X'.admits, X'.cas, X'.clock, X'.frames, X'.room, X'.hears, X'.method, X'.code, X'.here, X'.tail, X'.warmed, X'.limits, X'.bytes, ⟨X'.same.1, X'.same.2.1, by rw [hv]; exact X.same.2.2.1, X'.same.2.2.2.1, by rw [hv]; exact X.same.2.2.2.2.1, X'.same.2.2.2.2.2⟩⟩
theorem gk_tab {w : Cond} (h : gk_ok w = true) : w.onTables = true := by
  cases w <;> first | rfl | (exfalso; revert h; simp [gk_ok])
abbrev xIAE : String := "java/lang/IllegalArgumentException"
abbrev xISE : String := "java/lang/IllegalStateException"
abbrev xIOB : String := "java/lang/IndexOutOfBoundsException"
abbrev xUp : List String := ["java/lang/RuntimeException", "java/lang/Exception"]
theorem at_IAE : ∀ w ∈ (vx_atS RX7 320 xIAE xUp).filter (fun w => !goodWord w), w ∈ tables_1 ∧ gk_ok w = true := by decide +kernel
theorem at_ISE : ∀ w ∈ (vx_atS RX7 73 xISE xUp).filter (fun w => !goodWord w), w ∈ tables_1 ∧ gk_ok w = true := by decide +kernel
theorem at_IOB : ∀ w ∈ (vx_atS RX7 305 xIOB xUp).filter (fun w => !goodWord w), w ∈ tables_1 ∧ gk_ok w = true := by decide +kernel
theorem ot_IAE : ∀ w ∈ Cond.classLink RX7 316 xIAE :: Cond.initialized xIAE :: vx_atS RX7 320 xIAE xUp, vx_ot w = true := by decide +kernel
theorem ot_ISE : ∀ w ∈ Cond.classLink RX7 69 xISE :: Cond.initialized xISE :: vx_atS RX7 73 xISE xUp, vx_ot w = true := by decide +kernel
theorem ot_IOB : ∀ w ∈ Cond.classLink RX7 301 xIOB :: Cond.initialized xIOB :: vx_atS RX7 305 xIOB xUp, vx_ot w = true := by decide +kernel
section QX
variable {p : Program} {l : Launch} {e : Env} {R : Room} {s : State} {m : MethodId} {args : Array Value} {below : List Frame} {meth : Method} {c : Code} {H : Heap} {locs : List Loc} {cells slots : Nat} {Q : State → Prop}
variable {Ts ws ws' : List Cond} {cc bytes : ByteArray} {nL maxL index n : Nat} {own C : String} {y : MethodName} {ret : Option FieldType} {rm : Room} {b a pc : Nat} {As rest st0 : List Value} {ls : Array Slot} {G : GT} {v : Option Value} {av : List Value} {ko ko' : Option String} {mc ms : Nat} {free : Addr → Prop} {Qc : Array Value → State → Outcome → State → Prop} {XC : String → State → State → Prop}
theorem rx_iret {x : Int32} (S : CallFix p m c cc nL s av.toArray Ts own) (hr : meth.sig.returnType = some .int) (hlocks : meth.locks = false) (hdg : decode cc pc = .ok (.ireturn, 1)) (hk : ko = none) (hv : v = some (.int x)) :
    W p l e R s m av.toArray below meth c H [] 0 0 (rx_Q below H av s ko v) (F0 m pc ls [.int x]) :=
  W.widen (k := 1) (n := 6) (Nat.le_of_ble_eq_true rfl) (Nat.le_of_ble_eq_true rfl) (vx_ret (W.iret S.1 S.2.1 hr (fun t ht _ => ⟨hk, by rw [hv], ht⟩) (fun _ h => nomatch h) hdg hlocks))
theorem rx_vret (S : CallFix p m c cc nL s av.toArray Ts own) (hr : meth.sig.returnType = none) (hlocks : meth.locks = false) (hdg : decode cc pc = .ok (.return_, 1)) (hk : ko = none) (hv : v = none) :
    W p l e R s m av.toArray below meth c H [] 0 0 (rx_Q below H av s ko v) (F0 m pc ls []) :=
  W.widen (k := 1) (n := 6) (Nat.le_of_ble_eq_true rfl) (Nat.le_of_ble_eq_true rfl) (vx_ret (W.vret S.1 S.2.1 hr (fun t ht _ => ⟨hk, by rw [hv], ht⟩) (fun _ h => nomatch h) hdg hlocks))
theorem rx_at {cls : String} {ic : Nat} (S : CallFix p m c cc nL s args Ts own) (hG : GV G s) (h1 : ∀ w ∈ (vx_atS own ic cls xUp).filter goodWord, w ∈ Ts) (h2 : ∀ w ∈ (vx_atS own ic cls xUp).filter (fun w => !goodWord w), w ∈ tables_1 ∧ gk_ok w = true) : ∀ w ∈ vx_atS own ic cls xUp, w.before args s = true := by
  intro w hw
  by_cases g : goodWord w = true
  · exact S.2.2.2.2 w (h1 w (List.mem_filter.mpr ⟨hw, g⟩))
  · have h3 := h2 w (List.mem_filter.mpr ⟨hw, by simp [g]⟩)
    exact va_Nw.use (gk_tab h3.2) (hG.2.1 w h3.1 h3.2)
/-- the room that a throw wants -/
abbrev rx_rm (R : Room) (rest : List Value) : Prop := 5 < R.frames ∧ (rest.map fun v => v.category).sum + 82 ≤ R.locals ∧ 1 ≤ R.cells ∧ 6 ≤ R.slots
theorem rx_throwW {cls text : String} {ik is ic : Nat} (S : CallFix p m c cc nL s args Ts RX7) (hlf : l.stackTraces = false) (hG : GK G s.heap s) (hsz : ls.size = nL) (hout : ∀ x ∈ c.exceptionTable.toList, False) (hlocks : meth.locks = false)
    (hk : Cond.classLink RX7 ik cls ∈ Ts) (hi : Cond.initialized cls ∈ Ts) (hcls : Bundle.fit cls = true) (hs : (is, text) ∈ gk_strs) (h1 : ∀ w ∈ (vx_atS RX7 ic cls xUp).filter goodWord, w ∈ Ts) (h2 : ∀ w ∈ (vx_atS RX7 ic cls xUp).filter (fun w => !goodWord w), w ∈ tables_1 ∧ gk_ok w = true)
    (hgood : ∀ w ∈ Cond.classLink RX7 ik cls :: Cond.initialized cls :: vx_atS RX7 ic cls xUp, vx_ot w = true)
    (d0 : decode cc pc = .ok (.new ik, 3)) (d3 : decode cc (pc + 3) = .ok (.dup, 1)) (d4 : decode cc (pc + 4) = .ok (.ldc_w is, 3)) (d7 : decode cc (pc + 7) = .ok (.invokespecial ic, 3)) (d10 : decode cc (pc + 10) = .ok (.athrow, 1))
    (hR : rx_rm R rest) (hmc : 1 ≤ mc ∧ 6 ≤ ms) (hx : ∀ t : State, ext s.heap t.heap → XC cls s t) :
    W p l e R s m args below meth c s.heap [] 0 0 (vx_MQ below Qc XC args s mc ms free) (F0 m pc ls rest) := by
  obtain ⟨sa, hsa⟩ := hG.1.2.2.1 _ hs
  exact vx_throwSW S.1 S.2.1 hlf S.2.2.2.1 hcls (by decide) (S.2.2.2.2 _ hk) (S.2.2.2.2 _ hi) hsa (rx_at S hG.1 h1 h2) hgood hG.2.1 hG.2.2.1 va_S.rf (hsz.trans S.2.2.1.symm) d0 d3 d4 d7 d10 (fun x hx => (hout x hx).elim) hR.1 (Nat.le_trans (Nat.le_of_eq rfl) hR.2.1) (by simpa using hR.2.2.1) (by simpa using hR.2.2.2) hlocks (fun t _ h1 h2 => hx t ⟨h1, h2⟩) (fun _ h => nomatch h) (by simpa using hmc.1) (by simpa using hmc.2)
theorem rx_throwS {cls text : String} {ik is ic : Nat} (S : CallFix p m c cc nL s args Ts RX7) (hlf : l.stackTraces = false) (hG : GK G s.heap s) (hsz : ls.size = nL) (hout : ∀ x ∈ c.exceptionTable.toList, False) (hlocks : meth.locks = false)
    (hk : Cond.classLink RX7 ik cls ∈ Ts) (hi : Cond.initialized cls ∈ Ts) (hcls : Bundle.fit cls = true) (hs : (is, text) ∈ gk_strs) (h1 : ∀ w ∈ (vx_atS RX7 ic cls xUp).filter goodWord, w ∈ Ts) (h2 : ∀ w ∈ (vx_atS RX7 ic cls xUp).filter (fun w => !goodWord w), w ∈ tables_1 ∧ gk_ok w = true)
    (hgood : ∀ w ∈ Cond.classLink RX7 ik cls :: Cond.initialized cls :: vx_atS RX7 ic cls xUp, vx_ot w = true)
    (d0 : decode cc pc = .ok (.new ik, 3)) (d3 : decode cc (pc + 3) = .ok (.dup, 1)) (d4 : decode cc (pc + 4) = .ok (.ldc is, 2)) (d6 : decode cc (pc + 6) = .ok (.invokespecial ic, 3)) (d9 : decode cc (pc + 9) = .ok (.athrow, 1))
    (hR : rx_rm R rest) (hmc : 1 ≤ mc ∧ 6 ≤ ms) (hx : ∀ t : State, ext s.heap t.heap → XC cls s t) :
    W p l e R s m args below meth c s.heap [] 0 0 (vx_MQ below Qc XC args s mc ms free) (F0 m pc ls rest) := by
  obtain ⟨sa, hsa⟩ := hG.1.2.2.1 _ hs
  exact vx_throwS S.1 S.2.1 hlf S.2.2.2.1 hcls (by decide) (S.2.2.2.2 _ hk) (S.2.2.2.2 _ hi) hsa (rx_at S hG.1 h1 h2) hgood hG.2.1 hG.2.2.1 va_S.rf (hsz.trans S.2.2.1.symm) d0 d3 d4 d6 d9 (fun x hx => (hout x hx).elim) hR.1 (Nat.le_trans (Nat.le_of_eq rfl) hR.2.1) (by simpa using hR.2.2.1) (by simpa using hR.2.2.2) hlocks (fun t _ h1 h2 => hx t ⟨h1, h2⟩) (fun _ h => nomatch h) (by simpa using hmc.1) (by simpa using hmc.2)
theorem rx_run (hr : vx_Run p l e R s m args below meth c H [] 0 0 1 6 (F0 m pc ls st0) rest ((fun (_ : Array Value) (_ : State) (o : Outcome) (t : State) => ko = none ∧ o = .returned v ∧ t.heap = H) As.toArray) (fun E _ t => ko = some E ∧ ext H t.heap) (fun _ => False))
    (hout : ∀ x ∈ c.exceptionTable.toList, False) (hlocks : meth.locks = false) (hmc : 1 ≤ mc ∧ 6 ≤ ms) (hx : ∀ (E : String) (t : State), ko = some E → ext H t.heap → XC E s t)
    (kk : ko = none → W p l e R s m args below meth c H [] 0 0 (vx_MQ below Qc XC args s mc ms free) (F0 m (pc + 3) ls (v.toList ++ rest))) : W p l e R s m args below meth c H [] 0 0 (vx_MQ below Qc XC args s mc ms free) (F0 m pc ls st0) := by
  intro T hT X
  have nolocs : ∀ L : List Loc, (∀ q ∈ L, False) → L = [] := fun L h => by
    cases L with
    | nil => rfl
    | cons z r => exact (h z List.mem_cons_self).elim
  rcases hr T hT X with ⟨v', st₀, t, T', L, h0, X', hL, e1, e2, ⟨hk1, hv, hh⟩, st⟩ | ⟨q, st₀, t, T', L, E, ce, h0, X', hL, e1, e2, ⟨hk2, hext⟩, hce, hcv, hcl, st⟩
  · cases hv
    cases nolocs L hL
    obtain ⟨t2, a1, b1⟩ := kk hk1 T' (by rw [e1, hh]) (stand_back X X' (by rw [e1, hh, hT]))
    exact ⟨t2, st t2 a1, b1⟩
  · cases nolocs L hL
    have hw : vx_W p l e R s m args below meth c T'.heap [] 1 6 (vx_MQ below Qc XC args s mc ms free) (F0 m pc ls rest) q :=
      vx_out (fun x hx => (hout x hx).elim) hlocks (by rw [e1]; exact hce) hcv hcl (fun t3 ht _ => hx E t3 hk2 (by rw [ht, e1]; exact hext)) (fun _ h => nomatch h) hmc.1 hmc.2
    obtain ⟨t2, a1, b1⟩ := hw T' rfl X'
    exact ⟨t2, st.trans a1, b1⟩
theorem rx_V (S : CallFix p m c cc nL s args Ts own) (hG : GK G H s) (hH : RxV l G H y ws rm (.ref b :: As) ko v) (hT : GoodIn Ts (wsV own index C y ws)) (hw : ws = Cond.code y bytes maxL ret :: ws') (h0 : rm.cells = 1 ∧ rm.slots = 6) (hd : nmV y C n) (hR : rm.frames + 1 ≤ R.frames ∧ 8 + (maxL + 11) + rm.locals ≤ R.locals)
    (hcell : ∃ cell : Cell, H[b]? = some cell ∧ cell.vm.isStatics = false ∧ s.vm.findClass C = some cell.cls) (hn : As.length = n) (hsz : ls.size = nL) (hst : st0 = As.reverse ++ .ref b :: rest) (hW : (rest.map fun v => v.category).sum ≤ 8) (hf : 1 ≤ R.cells ∧ 6 ≤ R.slots) (hdg : decode cc pc = .ok (.invokevirtual index, 3))
    (hout : ∀ x ∈ c.exceptionTable.toList, False) (hlocks : meth.locks = false) (hmc : 1 ≤ mc ∧ 6 ≤ ms) (hx : ∀ (E : String) (t : State), ko = some E → ext H t.heap → XC E s t)
    (kk : ko = none → W p l e R s m args below meth c H [] 0 0 (vx_MQ below Qc XC args s mc ms free) (F0 m (pc + 3) ls (v.toList ++ rest))) : W p l e R s m args below meth c H [] 0 0 (vx_MQ below Qc XC args s mc ms free) (F0 m pc ls st0) :=
  rx_run (As := .ref b :: As) (vx_runV S hH (cwV n S.2.2.2.2 hT hw h0.1 h0.2 hd hR) ⟨rd_blind, hcell, fun U hU hWW => ⟨rfl, hU, GK.warm hWW hG⟩⟩ rfl hn hsz hst (lv_room hW) hdg ⟨by simpa using hf.1, by simpa using hf.2⟩) hout hlocks hmc hx kk
theorem rx_S (S : CallFix p m c cc nL s args Ts own) (hG : GK G H s) (hH : RxV l G H y ws rm As ko v) (hT : GoodIn Ts (va_wsS own index y ws)) (hw : ws = Cond.code y bytes maxL ret :: ws') (h0 : rm.cells = 1 ∧ rm.slots = 6) (hd : nmV y C n) (hR : rm.frames + 1 ≤ R.frames ∧ 8 + (maxL + 11) + rm.locals ≤ R.locals)
    (hn : As.length = n) (hsz : ls.size = nL) (hst : st0 = As.reverse ++ rest) (hW : (rest.map fun v => v.category).sum ≤ 8) (hf : 1 ≤ R.cells ∧ 6 ≤ R.slots) (hdg : decode cc pc = .ok (.invokestatic index, 3))
    (hout : ∀ x ∈ c.exceptionTable.toList, False) (hlocks : meth.locks = false) (hmc : 1 ≤ mc ∧ 6 ≤ ms) (hx : ∀ (E : String) (t : State), ko = some E → ext H t.heap → XC E s t)
    (kk : ko = none → W p l e R s m args below meth c H [] 0 0 (vx_MQ below Qc XC args s mc ms free) (F0 m (pc + 3) ls (v.toList ++ rest))) : W p l e R s m args below meth c H [] 0 0 (vx_MQ below Qc XC args s mc ms free) (F0 m pc ls st0) :=
  rx_run (As := As) (vx_runS S hH (va_cwS n S.2.2.2.2 hT hw h0.1 h0.2 hd.2 hR) ⟨rd_blind, fun U hU hWW => ⟨rfl, hU, GK.warm hWW hG⟩⟩ rfl hn hsz hst (lv_room hW) hdg ⟨by simpa using hf.1, by simpa using hf.2⟩) hout hlocks hmc hx kk
end QX
