/-! ===== my own library: methods of the reference that make new cells, or write ===== -/
/-- the cells that a run may write: all new ones among them, no static one -/
def DP (G : GT) (D : Nat → Prop) (n : Nat) : Prop := (∀ q, n ≤ q → D q) ∧ ∀ q, D q → G.2.2.1 ≤ q
/-- (whole's law needs more here) -/
def GX (_ : State) : Prop := True
theorem GX.warm {s U : State} (_ : s.WarmedH U.vm) (_ : GX s) : GX U := trivial
def MwV (l : Launch) (G : GT) (D : Nat → Prop) (H : Heap) (y : MethodName) (ws : List Cond) (rm : Room) (av : List Value) (nc ns : Nat) (P : Option Value → Heap → Prop) : Prop :=
  Met l y ws rm (va_Pc av (fun U => U.heap = H ∧ GK G H U ∧ GX U)) (fun _ _ o t => ∃ v, o = .returned v ∧ va_S D H t.heap [] ∧ P v t.heap) nc ns D
theorem mw_blind {G : GT} {H : Heap} {av : List Value} : FrameBlind (va_Pc av (fun U => U.heap = H ∧ GK G H U ∧ GX U)) :=
  fun a U g mk q => ⟨q.1, q.2.1, GK.same (s := U) (U := U.calling g mk a) rfl q.2.2.1, GX.warm (s := U) (U := U.calling g mk a) (by show U.WarmedH U.vm; exact State.WarmedH.refl U) q.2.2.2⟩
abbrev mw_Q (below : List Frame) (D : Nat → Prop) (H : Heap) (av : List Value) (s : State) (nc ns : Nat) (P : Option Value → Heap → Prop) : State → Prop := MQ below (fun _ _ o t => ∃ v, o = .returned v ∧ va_S D H t.heap [] ∧ P v t.heap) av.toArray s nc ns D
theorem mw_of {l : Launch} {G : GT} {D : Nat → Prop} {H : Heap} {y : MethodName} {ws ws' : List Cond} {rm : Room} {av : List Value} {nc ns : Nat} {P : Option Value → Heap → Prop} {cc : ByteArray} {maxL : Nat} {ret : Option FieldType}
    (hy : plainName y.cls = true) (hw : ws = Cond.code y cc maxL ret :: ws') (ha : (lg_sl av).length ≤ maxL)
    (body : ∀ (p : Program) (e : Env) (s : State) (m : MethodId) (below : List Frame) (meth : Method) (c : Code) (ls : Array Slot), CallFix p m c cc maxL s av.toArray ws y.cls → meth.sig.returnType = ret → meth.locks = false → lv_has ls maxL (lv_args 0 av) → s.heap = H → GK G H s → GX s →
      W p l e rm s m av.toArray below meth c H [] 0 0 (mw_Q below D H av s nc ns P) (F0 m 0 ls [])) : MwV l G D H y ws rm av nc ns P := by
  refine Met.ofW (cc := cc) (maxL := maxL) (ret := ret) hy hw ?_
  intro p e s m args below meth c s₁ B hml hv
  obtain ⟨rfl, hH, hG, hGX⟩ := hv
  have hl := lv_entry av (n := maxL) ha
  rw [lg_entry_eq, hH]
  exact body p e s m below meth c _ ⟨B.exec, B.bytes, hml, findClass_of_methodNamed B.named, atoms_spec (ws := ws) B.pre⟩ B.returns B.notSynchronized hl hH hG hGX
theorem ext.tr {H H1 H2 : Heap} (h1 : ext H H1) (h2 : ext H1 H2) : ext H H2 := ⟨Nat.le_trans h1.1 h2.1, fun q hq => (h2.2 q (Nat.lt_of_lt_of_le hq h1.1)).trans (h1.2 q hq)⟩
theorem ext.rf {H : Heap} : ext H H := ⟨Nat.le_refl _, fun _ _ => rfl⟩
theorem gk_ext {G : GT} {H H1 : Heap} {s : State} (hx : ext H H1) (h : GK G H s) : GK G H1 s := h.heap fun a ha _ => hx.2 a ha
theorem vs_tr {D D1 : Nat → Prop} {H H1 H2 : Heap} {L L2 : List Loc} (h : va_S D H H1 L) (hD : ∀ q, D1 q → D q) (h2 : va_S D1 H1 H2 []) (hL : ∀ l ∈ L2, D1 l.base) : va_S D H H2 (L ++ L2) :=
  ⟨Nat.le_trans h.1 h2.1, fun q hq hn => (h2.2.1 q (Nat.lt_of_lt_of_le hq h.1) fun z => hn (hD q z)).trans (h.2.1 q hq hn), fun q hq => (List.mem_append.mp hq).elim (h.2.2 q) (fun z => hD _ (hL q z))⟩
section QMW
variable {p : Program} {l : Launch} {e : Env} {R : Room} {s : State} {m : MethodId} {args : Array Value} {below : List Frame} {meth : Method} {c : Code} {H H1 : Heap} {locs : List Loc} {cells slots : Nat} {Q : State → Prop}
variable {Ts ws ws' : List Cond} {cc bytes : ByteArray} {nL maxL index n : Nat} {own C : String} {y : MethodName} {ret : Option FieldType} {rm : Room} {b a pc nc ns ncc nss : Nat} {As rest st0 : List Value} {ls : Array Slot} {G : GT} {v : Option Value} {av : List Value} {D D1 : Nat → Prop} {P : Option Value → Heap → Prop}
theorem mw_vret (S : CallFix p m c cc nL s av.toArray Ts own) (hr : meth.sig.returnType = none) (hlocks : meth.locks = false) (hS : va_S D H H1 locs) (hc : cells ≤ nc ∧ slots ≤ ns) (hdg : decode cc pc = .ok (.return_, 1)) (hP : P none H1) :
    W p l e R s m av.toArray below meth c H1 locs cells slots (mw_Q below D H av s nc ns P) (F0 m pc ls []) :=
  W.widen hc.1 hc.2 (W.vret S.1 S.2.1 hr (fun t ht _ => ⟨_, rfl, by rw [ht]; exact ⟨hS.1, hS.2.1, fun _ h => nomatch h⟩, by rw [ht]; exact hP⟩) hS.2.2 hdg hlocks)
theorem mw_run (a : Array Value) (hD : DP G D H.size) (hG : GK G H1 s) (hS : va_S D H H1 locs) (hD1 : ∀ q, D1 q → D q) (hr : va_Run p l e R s m args below meth c H1 locs cells slots nc ns (F0 m pc ls st0) rest ((fun (_ : Array Value) (_ : State) (o : Outcome) (t : State) => ∃ v, o = .returned v ∧ va_S D1 H1 t.heap [] ∧ P v t.heap) a) D1)
    (kk : ∀ (H2 : Heap) (locs2 : List Loc) (v : Option Value), va_S D H H2 locs2 → va_S D1 H1 H2 [] → P v H2 → GK G H2 s → W p l e R s m args below meth c H2 locs2 (cells + nc) (slots + ns) Q (F0 m (pc + 3) ls (v.toList ++ rest))) : W p l e R s m args below meth c H1 locs cells slots Q (F0 m pc ls st0) := by
  intro T hT X
  obtain ⟨v', st₀, t, T', L, h0, X', hL, e1, -, ⟨v2, hv, hS1, hP⟩, st⟩ := hr T hT X
  have hv2 : v' = v2 := by injection hv
  subst hv2
  rw [← e1] at hS1 hP
  have hG2 : GK G T'.heap s := hG.heap fun q hq hz => hS1.2.1 q hq fun h => hz (hD.2 q (hD1 q h))
  obtain ⟨t2, a1, b1⟩ := kk T'.heap (locs ++ L) v' (vs_tr hS hD1 hS1 hL) hS1 hP hG2 T' rfl X'
  exact ⟨t2, st t2 a1, b1⟩
theorem mw_V (S : CallFix p m c cc nL s args Ts own) (hD : DP G D H.size) (hGX : GX s) (hG : GK G H1 s) (hS : va_S D H H1 locs) (hH : MwV l G D1 H1 y ws rm (.ref b :: As) nc ns P) (hD1 : ∀ q, D1 q → D q) (hT : GoodIn Ts (wsV own index C y ws)) (hw : ws = Cond.code y bytes maxL ret :: ws') (h0 : rm.cells = nc ∧ rm.slots = ns) (hd : nmV y C n) (hR : rm.frames + 1 ≤ R.frames ∧ 8 + (maxL + 11) + rm.locals ≤ R.locals)
    (hcell : ∃ cell : Cell, H1[b]? = some cell ∧ cell.vm.isStatics = false ∧ s.vm.findClass C = some cell.cls) (hn : As.length = n) (hsz : ls.size = nL) (hst : st0 = As.reverse ++ .ref b :: rest) (hW : (rest.map fun v => v.category).sum ≤ 8) (hf : cells + nc ≤ R.cells ∧ slots + ns ≤ R.slots) (hdg : decode cc pc = .ok (.invokevirtual index, 3))
    (kk : ∀ (H2 : Heap) (locs2 : List Loc) (v : Option Value), va_S D H H2 locs2 → va_S D1 H1 H2 [] → P v H2 → GK G H2 s → W p l e R s m args below meth c H2 locs2 (cells + nc) (slots + ns) Q (F0 m (pc + 3) ls (v.toList ++ rest))) : W p l e R s m args below meth c H1 locs cells slots Q (F0 m pc ls st0) :=
  mw_run (Value.ref b :: As).toArray hD hG hS hD1 (va_runV S hH (cwV n S.2.2.2.2 hT hw h0.1 h0.2 hd hR) ⟨mw_blind, hcell, fun U hU hWW => ⟨rfl, hU, GK.warm hWW hG, GX.warm hWW hGX⟩⟩ rfl hn hsz hst (lv_room hW) hdg hf) kk
/-- a new array of ints -/
theorem mw_newa {i : Int32} {N : Nat} (S : CallFix p m c cc nL s args Ts own) (hG : GK G H1 s) (harr : (Cond.arrayClass .int).before args s = true) (hn : ¬ i < 0) (hN : i.toNatClampNeg = N) (hb : N * 4 ≤ 536870912) (hf : cells + 1 ≤ R.cells ∧ slots + N ≤ R.slots) (hdg : decode cc pc = .ok (.newarray .int, 2))
    (kk : ∀ H2 : Heap, va_at G.1 vwCl (H1.size, .inl (G.2.1 0, N, .inl (fun _ => 0))) H2 → H2.size = H1.size + 1 → ext H1 H2 → W p l e R s m args below meth c H2 locs (cells + 1) (slots + N) Q (F0 m (pc + 2) ls (.ref H1.size :: rest))) : W p l e R s m args below meth c H1 locs cells slots Q (F0 m pc ls (.int i :: rest)) := by
  refine va_newaK (atype := .int) S.1 S.2.1 harr rfl hdg rfl hn hN hb hf.1 hf.2 rfl fun H2 cA e1 z1 o1 _ hNm => ?_
  have hc : cA = G.2.1 0 := by
    have h2 := (hG.1.1.2 0 _ rfl).2
    have h3 : s.vm.findClass "[I" = some cA := hNm
    exact Option.some.inj (h3.symm.trans h2)
  subst hc
  exact kk H2 e1 z1 ⟨by omega, o1⟩
/-- an int into an array of the run's own, or of the reference -/
theorem mw_iast {n : Nat} {r : Nat → Int32} {i x : Int32} (S : CallFix p m c cc nL s args Ts own) (hD : DP G D H.size) (hG : GK G H1 s) (hS : va_S D H H1 locs) (hda : D a) (hat : va_at G.1 vwCl (a, .inl (G.2.1 0, n, .inl r)) H1) (hin : vp_in i n) (hdg : decode cc pc = .ok (.iastore, 1))
    (kk : ∀ (H2 : Heap) (locs2 : List Loc), va_at G.1 vwCl (a, .inl (G.2.1 0, n, .inl (upd r i.toNatClampNeg x))) H2 → H2.size = H1.size → (∀ q : Nat, q ≠ a → H2[q]? = H1[q]?) → va_S D H H2 locs2 → GK G H2 s → W p l e R s m args below meth c H2 locs2 cells slots Q (F0 m (pc + 1) ls rest)) : W p l e R s m args below meth c H1 locs cells slots Q (F0 m pc ls (.int x :: .int i :: .ref a :: rest)) := by
  refine wr_iast S hG.1 hat hin hdg fun H2 h1 h2 h3 => ?_
  exact kk H2 _ h1 h2 h3 (hS.put h2 h3 hda) (hG.heap fun q _ hz => h3 q fun e => hz (by rw [e]; exact hD.2 a hda))
end QMW
