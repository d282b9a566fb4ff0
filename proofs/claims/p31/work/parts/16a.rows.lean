/-! ===== rows for the law and its helpers ===== -/
/-- a method that answers v and leaves the heap as it is; a call of its may make a thing and lose it -/
def PrV (l : Launch) (G : GT) (H : Heap) (y : MethodName) (ws : List Cond) (rm : Room) (av : List Value) (v : Option Value) : Prop :=
  Met l y ws rm (va_Pc av (fun U => U.heap = H ∧ GK G H U)) (fun _ _ o t => o = .returned v ∧ t.heap = H) 1 6 (fun _ => False)
abbrev pr_Q (below : List Frame) (H : Heap) (av : List Value) (s : State) (v : Option Value) : State → Prop := MQ below (fun _ _ o t => o = .returned v ∧ t.heap = H) av.toArray s 1 6 (fun _ => False)
theorem pr_of {l : Launch} {G : GT} {H : Heap} {y : MethodName} {ws ws' : List Cond} {rm : Room} {av : List Value} {v : Option Value} {cc : ByteArray} {maxL : Nat} {ret : Option FieldType}
    (hy : plainName y.cls = true) (hw : ws = Cond.code y cc maxL ret :: ws') (ha : (lg_sl av).length ≤ maxL)
    (body : ∀ (p : Program) (e : Env) (s : State) (m : MethodId) (below : List Frame) (meth : Method) (c : Code) (ls : Array Slot), CallFix p m c cc maxL s av.toArray ws y.cls → meth.sig.returnType = ret → meth.locks = false → lv_has ls maxL (lv_args 0 av) → s.heap = H → GK G H s →
      W p l e rm s m av.toArray below meth c H [] 0 0 (pr_Q below H av s v) (F0 m 0 ls [])) : PrV l G H y ws rm av v := by
  refine Met.ofW (cc := cc) (maxL := maxL) (ret := ret) hy hw ?_
  intro p e s m args below meth c s₁ B hml hv
  obtain ⟨rfl, hH, hG⟩ := hv
  have hl := lv_entry av (n := maxL) ha
  rw [lg_entry_eq, hH]
  exact body p e s m below meth c _ ⟨B.exec, B.bytes, hml, findClass_of_methodNamed B.named, atoms_spec (ws := ws) B.pre⟩ B.returns B.notSynchronized hl hH hG
/-- the room's cells -/
def DAr (A : Nat → Nat) : Nat → Prop := fun q => ∃ k, rD k ∧ q = A k
/-- a helper that writes: it answers 1, and leaves a room of which Φ holds -/
def PwV (l : Launch) (G : GT) (A : Nat → Nat) (H : Heap) (y : MethodName) (ws : List Cond) (rm : Room) (av : List Value) (Φ : (Nat → Nat → Int32) → (Nat → Nat) → Prop) : Prop :=
  Met l y ws rm (va_Pc av (fun U => U.heap = H ∧ GK G H U)) (fun _ _ o t => o = .returned (some (.int 1)) ∧ va_S (DAr A) H t.heap [] ∧ ∃ f' g', RP G A f' g' t.heap ∧ Φ f' g') 3 18 (DAr A)
abbrev pw_Q (below : List Frame) (G : GT) (A : Nat → Nat) (H : Heap) (av : List Value) (s : State) (Φ : (Nat → Nat → Int32) → (Nat → Nat) → Prop) : State → Prop := MQ below (fun _ _ o t => o = .returned (some (.int 1)) ∧ va_S (DAr A) H t.heap [] ∧ ∃ f' g', RP G A f' g' t.heap ∧ Φ f' g') av.toArray s 3 18 (DAr A)
theorem pw_of {l : Launch} {G : GT} {A : Nat → Nat} {H : Heap} {y : MethodName} {ws ws' : List Cond} {rm : Room} {av : List Value} {Φ : (Nat → Nat → Int32) → (Nat → Nat) → Prop} {cc : ByteArray} {maxL : Nat} {ret : Option FieldType}
    (hy : plainName y.cls = true) (hw : ws = Cond.code y cc maxL ret :: ws') (ha : (lg_sl av).length ≤ maxL)
    (body : ∀ (p : Program) (e : Env) (s : State) (m : MethodId) (below : List Frame) (meth : Method) (c : Code) (ls : Array Slot), CallFix p m c cc maxL s av.toArray ws y.cls → meth.sig.returnType = ret → meth.locks = false → lv_has ls maxL (lv_args 0 av) → s.heap = H → GK G H s →
      W p l e rm s m av.toArray below meth c H [] 0 0 (pw_Q below G A H av s Φ) (F0 m 0 ls [])) : PwV l G A H y ws rm av Φ := by
  refine Met.ofW (cc := cc) (maxL := maxL) (ret := ret) hy hw ?_
  intro p e s m args below meth c s₁ B hml hv
  obtain ⟨rfl, hH, hG⟩ := hv
  have hl := lv_entry av (n := maxL) ha
  rw [lg_entry_eq, hH]
  exact body p e s m below meth c _ ⟨B.exec, B.bytes, hml, findClass_of_methodNamed B.named, atoms_spec (ws := ws) B.pre⟩ B.returns B.notSynchronized hl hH hG
theorem vs_chg {A : Nat → Nat} {D : Nat → Prop} {H0 H H1 : Heap} {locs L : List Loc} (h : va_S D H0 H locs) (hDA : ∀ k, rD k → D (A k)) (hc : chg A H H1) (hL : ∀ q ∈ L, ∃ k, rD k ∧ q.base = A k) : va_S D H0 H1 (locs ++ L) :=
  ⟨Nat.le_trans h.1 hc.1, fun q hq hn => (hc.2 q (Nat.lt_of_lt_of_le hq h.1) (fun k hk e => hn (by rw [e]; exact hDA k hk))).trans (h.2.1 q hq hn), fun q hq => (List.mem_append.mp hq).elim (h.2.2 q) (fun z => by obtain ⟨k, hk, e⟩ := hL q z; rw [e]; exact hDA k hk)⟩
section QPR
variable {p : Program} {l : Launch} {e : Env} {R : Room} {s : State} {m : MethodId} {args : Array Value} {below : List Frame} {meth : Method} {c : Code} {H H0 : Heap} {locs : List Loc} {cells slots : Nat} {Q : State → Prop}
variable {Ts ws ws' : List Cond} {cc bytes : ByteArray} {nL maxL index n : Nat} {own C : String} {y : MethodName} {ret : Option FieldType} {rm : Room} {b a pc : Nat} {As rest st0 : List Value} {ls : Array Slot} {G : GT} {v : Option Value} {av : List Value} {ko : Option String} {A : Nat → Nat} {f f' : Nat → Nat → Int32} {g g' : Nat → Nat} {D : Nat → Prop} {Φ : (Nat → Nat → Int32) → (Nat → Nat) → Prop}
theorem pr_zret {x : Int32} {ty : FieldType} (S : CallFix p m c cc nL s av.toArray Ts own) (hr : meth.sig.returnType = some ty) (hlocks : meth.locks = false) (hdg : decode cc pc = .ok (.ireturn, 1)) (hn : narrow ty (.int x) = .int x) (hv : v = some (.int x)) :
    W p l e R s m av.toArray below meth c H [] 0 0 (pr_Q below H av s v) (F0 m pc ls [.int x]) :=
  W.widen (k := 1) (n := 6) (Nat.le_of_ble_eq_true rfl) (Nat.le_of_ble_eq_true rfl) (W.zret S.1 S.2.1 hr hn (fun t ht _ => ⟨by rw [hv], ht⟩) (fun _ h => nomatch h) hdg hlocks)
theorem pw_zret {ty : FieldType} (S : CallFix p m c cc nL s av.toArray Ts own) (hr : meth.sig.returnType = some ty) (hlocks : meth.locks = false) (hS : va_S (DAr A) H0 H locs) (hRP : RP G A f' g' H) (hΦ : Φ f' g') (hc : cells ≤ 3 ∧ slots ≤ 18) (hdg : decode cc pc = .ok (.ireturn, 1)) (hn : narrow ty (.int 1) = .int 1) :
    W p l e R s m av.toArray below meth c H locs cells slots (pw_Q below G A H0 av s Φ) (F0 m pc ls [.int 1]) :=
  W.widen hc.1 hc.2 (W.zret S.1 S.2.1 hr hn (fun t ht _ => ⟨rfl, by rw [ht]; exact ⟨hS.1, hS.2.1, fun _ h => nomatch h⟩, f', g', by rw [ht]; exact hRP, hΦ⟩) hS.2.2 hdg hlocks)
/-- a call of the class that isn't refused, and changes nothing -/
theorem pr_V (S : CallFix p m c cc nL s args Ts own) (hG : GK G H s) (hH : RxV l G H y ws rm (.ref b :: As) ko v) (hko : ko = none) (hT : GoodIn Ts (wsV own index C y ws)) (hw : ws = Cond.code y bytes maxL ret :: ws') (h0 : rm.cells = 1 ∧ rm.slots = 6) (hd : nmV y C n) (hR : rm.frames + 1 ≤ R.frames ∧ 8 + (maxL + 11) + rm.locals ≤ R.locals)
    (hcell : ∃ cell : Cell, H[b]? = some cell ∧ cell.vm.isStatics = false ∧ s.vm.findClass C = some cell.cls) (hn : As.length = n) (hsz : ls.size = nL) (hst : st0 = As.reverse ++ .ref b :: rest) (hW : (rest.map fun v => v.category).sum ≤ 8) (hf : cells + 1 ≤ R.cells ∧ slots + 6 ≤ R.slots) (hdg : decode cc pc = .ok (.invokevirtual index, 3))
    (kk : W p l e R s m args below meth c H locs cells slots Q (F0 m (pc + 3) ls (v.toList ++ rest))) : W p l e R s m args below meth c H locs cells slots Q (F0 m pc ls st0) := by
  subst hko
  intro T hTT X
  rcases vx_runV S hH (cwV n S.2.2.2.2 hT hw h0.1 h0.2 hd hR) ⟨rd_blind, hcell, fun U hU hWW => ⟨rfl, hU, GK.warm hWW hG⟩⟩ rfl hn hsz hst (lv_room hW) hdg hf T hTT X with ⟨v', st₀, t, T', L9, h09, X', hL, e1, e2, ⟨hk1, hv, hh⟩, st⟩ | ⟨q, st₀, t, T', L9, E, ce9, h09, X', hL, e1, e2, ⟨hk2, hext⟩, hce, hcv, hcl, st⟩
  · cases hv
    have hL9 : L9 = [] := List.eq_nil_iff_forall_not_mem.mpr fun q hq => hL q hq
    subst hL9
    rw [List.append_nil] at X'
    obtain ⟨t2, a1, b1⟩ := kk T' (by rw [e1]; exact hh) (stand_back X X' (by rw [e1, hh, hTT]))
    exact ⟨t2, st t2 a1, b1⟩
  · cases hk2
/-- a call of a helper that changes nothing -/
theorem pr_S (S : CallFix p m c cc nL s args Ts own) (hG : GK G H s) (hH : PrV l G H y ws rm As v) (hT : GoodIn Ts (va_wsS own index y ws)) (hw : ws = Cond.code y bytes maxL ret :: ws') (h0 : rm.cells = 1 ∧ rm.slots = 6) (hd : nmV y C n) (hR : rm.frames + 1 ≤ R.frames ∧ 8 + (maxL + 11) + rm.locals ≤ R.locals)
    (hn : As.length = n) (hsz : ls.size = nL) (hst : st0 = As.reverse ++ rest) (hW : (rest.map fun v => v.category).sum ≤ 8) (hf : cells + 1 ≤ R.cells ∧ slots + 6 ≤ R.slots) (hdg : decode cc pc = .ok (.invokestatic index, 3))
    (kk : W p l e R s m args below meth c H locs cells slots Q (F0 m (pc + 3) ls (v.toList ++ rest))) : W p l e R s m args below meth c H locs cells slots Q (F0 m pc ls st0) := by
  intro T hTT X
  obtain ⟨v', st₀, t, T', L9, h09, X', hL, e1, -, ⟨hv, hh⟩, st⟩ := va_runS S hH (va_cwS n S.2.2.2.2 hT hw h0.1 h0.2 hd.2 hR) ⟨rd_blind, fun U hU hWW => ⟨rfl, hU, GK.warm hWW hG⟩⟩ rfl hn hsz hst (lv_room hW) hdg hf T hTT X
  cases hv
  have hL9 : L9 = [] := List.eq_nil_iff_forall_not_mem.mpr fun q hq => hL q hq
  subst hL9
  rw [List.append_nil] at X'
  obtain ⟨t2, a1, b1⟩ := kk T' (by rw [e1]; exact hh) (stand_back X X' (by rw [e1, hh, hTT]))
  exact ⟨t2, st t2 a1, b1⟩
/-- a call of the class that isn't refused, and writes in the room -/
theorem pw_V (S : CallFix p m c cc nL s args Ts own) (hA : RA G A) (hG : GK G H s) (hS : va_S D H0 H locs) (hDA : ∀ k, rD k → D (A k)) (hH : WxV l G A H y ws rm (.ref b :: As) ko v f' g') (hko : ko = none) (hT : GoodIn Ts (wsV own index C y ws)) (hw : ws = Cond.code y bytes maxL ret :: ws') (h0 : rm.cells = 1 ∧ rm.slots = 6) (hd : nmV y C n) (hR : rm.frames + 1 ≤ R.frames ∧ 8 + (maxL + 11) + rm.locals ≤ R.locals)
    (hcell : ∃ cell : Cell, H[b]? = some cell ∧ cell.vm.isStatics = false ∧ s.vm.findClass C = some cell.cls) (hn : As.length = n) (hsz : ls.size = nL) (hst : st0 = As.reverse ++ .ref b :: rest) (hW : (rest.map fun v => v.category).sum ≤ 8) (hf : cells + 1 ≤ R.cells ∧ slots + 6 ≤ R.slots) (hdg : decode cc pc = .ok (.invokevirtual index, 3))
    (kk : ∀ (H2 : Heap) (locs2 : List Loc), RP G A f' g' H2 → va_S D H0 H2 locs2 → GK G H2 s → W p l e R s m args below meth c H2 locs2 (cells + 1) (slots + 6) Q (F0 m (pc + 3) ls (v.toList ++ rest))) : W p l e R s m args below meth c H locs cells slots Q (F0 m pc ls st0) := by
  subst hko
  intro T hTT X
  rcases vx_runV S hH (cwV n S.2.2.2.2 hT hw h0.1 h0.2 hd hR) ⟨rd_blind, hcell, fun U hU hWW => ⟨rfl, hU, GK.warm hWW hG⟩⟩ rfl hn hsz hst (lv_room hW) hdg hf T hTT X with ⟨v', st₀, t, T', L9, h09, X', hL, e1, e2, ⟨hk1, hv, hRP, hch⟩, st⟩ | ⟨q, st₀, t, T', L9, E, ce9, h09, X', hL, e1, e2, ⟨hk2, hext⟩, hce, hcv, hcl, st⟩
  · cases hv
    obtain ⟨t2, a1, b1⟩ := kk T'.heap (locs ++ L9) (by rw [e1]; exact hRP) (vs_chg hS hDA (by rw [e1]; exact hch) hL) (by rw [e1]; exact chg.gk hA hch hG) T' rfl X'
    exact ⟨t2, st t2 a1, b1⟩
  · cases hk2
/-- a call of a helper that writes in the room -/
theorem pw_S (S : CallFix p m c cc nL s args Ts own) (hA : RA G A) (hG : GK G H s) (hS : va_S D H0 H locs) (hDA : ∀ k, rD k → D (A k)) (hH : PwV l G A H y ws rm As Φ) (hT : GoodIn Ts (va_wsS own index y ws)) (hw : ws = Cond.code y bytes maxL ret :: ws') (h0 : rm.cells = 3 ∧ rm.slots = 18) (hd : nmV y C n) (hR : rm.frames + 1 ≤ R.frames ∧ 8 + (maxL + 11) + rm.locals ≤ R.locals)
    (hn : As.length = n) (hsz : ls.size = nL) (hst : st0 = As.reverse ++ rest) (hW : (rest.map fun v => v.category).sum ≤ 8) (hf : cells + 3 ≤ R.cells ∧ slots + 18 ≤ R.slots) (hdg : decode cc pc = .ok (.invokestatic index, 3))
    (kk : ∀ (H2 : Heap) (locs2 : List Loc) (f' : Nat → Nat → Int32) (g' : Nat → Nat), RP G A f' g' H2 → Φ f' g' → va_S D H0 H2 locs2 → GK G H2 s → W p l e R s m args below meth c H2 locs2 (cells + 3) (slots + 18) Q (F0 m (pc + 3) ls (.int 1 :: rest))) : W p l e R s m args below meth c H locs cells slots Q (F0 m pc ls st0) := by
  intro T hTT X
  obtain ⟨v', st₀, t, T', L9, h09, X', hL, e1, -, ⟨hv, hS1, f', g', hRP, hΦ⟩, st⟩ := va_runS S hH (va_cwS n S.2.2.2.2 hT hw h0.1 h0.2 hd.2 hR) ⟨rd_blind, fun U hU hWW => ⟨rfl, hU, GK.warm hWW hG⟩⟩ rfl hn hsz hst (lv_room hW) hdg hf T hTT X
  have hv2 : v' = some (.int 1) := by injection hv
  subst hv2
  rw [← e1] at hS1 hRP
  have hG2 : GK G T'.heap s := hG.heap fun q hq hz => hS1.2.1 q hq fun h => hz (by obtain ⟨k, hk, e9⟩ := h; rw [e9]; exact hA.1 k hk)
  obtain ⟨t2, a1, b1⟩ := kk T'.heap (locs ++ L9) f' g' hRP hΦ (vs_tr hS (fun q h => by obtain ⟨k, hk, e9⟩ := h; rw [e9]; exact hDA k hk) hS1 hL) hG2 T' rfl X'
  exact ⟨t2, st t2 a1, b1⟩
end QPR
