/-! ===== the law's wrappers: my library ===== -/
theorem wl_ofH {l : Launch} {y : MethodName} {ws ws' : List Cond} {rm : Room} {Pc : Array Value → State → Prop} {Qc : Array Value → State → Outcome → State → Prop} {mc ms : Nat} {free : Addr → Prop} {cc : ByteArray} {maxL : Nat} {ret : Option FieldType} {hh : List (Nat × Nat × Nat × Nat)}
    (hy : plainName y.cls = true) (hw : ws = Cond.codeWith y cc maxL ret hh :: ws')
    (body : ∀ p e s m args below meth c s₁, BodyLoose p l y (headSpec ws rm) cc maxL ret e s m args below meth c s₁ → c.maxLocals = maxL → c.exceptionTable.toList = tableOf hh → Pc args s →
      W p l e (headSpec ws rm).room s m args below meth c s.heap [] 0 0 (MQ below Qc args s mc ms free) (entryFrame m args maxL)) : Met l y ws rm Pc Qc mc ms free := by
  refine MetFree.of_bodyS (code := cc) (maxLocals := maxL) (ret := ret) hy ?_ ?_
  · intro args s m h hn
    obtain ⟨m9, meth, c, hn9, h1, h2, h3, h4, -, h5, h6, -⟩ := Cond.codeWith_spec (atoms_spec (ws := ws) h _ (by rw [hw]; exact List.mem_cons_self))
    cases hn.symm.trans hn9
    exact ⟨meth, c, h1, h2, h3, h4, h5, h6⟩
  · intro p e s m args below meth c s₁ B hml hP _
    have hh0 : s₁.heap = s.heap := by rw [B.state]; rfl
    have ht : c.exceptionTable.toList = tableOf hh := vx_table (x := y) B (atoms_spec (ws := ws) B.pre _ (by rw [hw]; exact List.mem_cons_self))
    obtain ⟨t, a1, o, b1, b2, b3⟩ := body p e s m args below meth c s₁ B hml ht hP s₁ hh0 (Stand.of_body B)
    exact ⟨t, o, a1, b1, b2, ⟨b3.1, b3.2⟩⟩
/-- which exception isn't which -/
def GN (U : State) : Prop := va_Nc xIAE xIOB U ∧ va_Nc xISE xIAE U ∧ va_Nc xISE xIOB U
theorem GN.moved {u U : State} (hvm : u.vm.Alike U.vm) (h : GN u) : GN U := ⟨va_Nc.moved hvm h.1, va_Nc.moved hvm h.2.1, va_Nc.moved hvm h.2.2⟩
theorem GN.warm {s U : State} (hW : s.WarmedH U.vm) (h : GN s) : GN U := h.moved hW.alike
/-- only cells of the room and the cell o have changed -/
def chgo (A : Nat → Nat) (o : Nat) (H H1 : Heap) : Prop := H.size ≤ H1.size ∧ ∀ q : Nat, q < H.size → (∀ k, rD k → q ≠ A k) → q ≠ o → H1[q]? = H[q]?
abbrev oL (G : GT) (r : Nat → Int64) : va_E := .inl (G.2.1 3, 1, .inr (.inl r))
abbrev oD (G : GT) (r : Nat → UInt64) : va_E := .inl (G.2.1 4, 1, .inr (.inr (.inr (.inl r))))
/-- a wrapper: it answers which exception its call threw (0 none); then the room is as it was, else it is f', g', and the answer lies in o -/
def WLV (l : Launch) (G : GT) (A : Nat → Nat) (o : Nat) (H : Heap) (y : MethodName) (ws : List Cond) (rm : Room) (av : List Value) (L : List String) (ko : Option String) (x : Int32) (f : Nat → Nat → Int32) (g : Nat → Nat) (f' : Nat → Nat → Int32) (g' : Nat → Nat) : Prop :=
  Met l y ws rm (va_Pc av (fun U => U.heap = H ∧ GK G H U ∧ GN U)) (fun _ _ oc t => oc = .returned (some (.int (ecd L ko))) ∧ chgo A o H t.heap ∧ (ko = none → RP G A f' g' t.heap ∧ ∃ r : Nat → Int64, r 0 = x.toInt64 ∧ va_at G.1 vwCl (o, oL G r) t.heap) ∧ (ko ≠ none → RP G A f g t.heap ∧ ∃ r : Nat → Int64, va_at G.1 vwCl (o, oL G r) t.heap)) 1 6 (fun q => (∃ k, rD k ∧ q = A k) ∨ q = o)
theorem wl_blind {G : GT} {H : Heap} {av : List Value} : FrameBlind (va_Pc av (fun U => U.heap = H ∧ GK G H U ∧ GN U)) :=
  fun a U g mk q => ⟨q.1, q.2.1, GK.same (s := U) (U := U.calling g mk a) rfl q.2.2.1, GN.moved (u := U) (U := U.calling g mk a) (Vm.Alike.refl U.vm) q.2.2.2⟩
abbrev wl_Q (below : List Frame) (G : GT) (A : Nat → Nat) (o : Nat) (H : Heap) (av : List Value) (s : State) (L : List String) (ko : Option String) (x : Int32) (f : Nat → Nat → Int32) (g : Nat → Nat) (f' : Nat → Nat → Int32) (g' : Nat → Nat) : State → Prop := MQ below (fun _ _ oc t => oc = .returned (some (.int (ecd L ko))) ∧ chgo A o H t.heap ∧ (ko = none → RP G A f' g' t.heap ∧ ∃ r : Nat → Int64, r 0 = x.toInt64 ∧ va_at G.1 vwCl (o, oL G r) t.heap) ∧ (ko ≠ none → RP G A f g t.heap ∧ ∃ r : Nat → Int64, va_at G.1 vwCl (o, oL G r) t.heap)) av.toArray s 1 6 (fun q => (∃ k, rD k ∧ q = A k) ∨ q = o)
theorem wl_of {l : Launch} {G : GT} {A : Nat → Nat} {o : Nat} {H : Heap} {y : MethodName} {ws ws' : List Cond} {rm : Room} {av : List Value} {L : List String} {ko : Option String} {x : Int32} {f f' : Nat → Nat → Int32} {g g' : Nat → Nat} {cc : ByteArray} {maxL : Nat} {ret : Option FieldType} {hh : List (Nat × Nat × Nat × Nat)}
    (hy : plainName y.cls = true) (hw : ws = Cond.codeWith y cc maxL ret hh :: ws') (ha : (lg_sl av).length ≤ maxL)
    (body : ∀ (p : Program) (e : Env) (s : State) (m : MethodId) (below : List Frame) (meth : Method) (c : Code) (ls : Array Slot), CallFix p m c cc maxL s av.toArray ws y.cls → meth.sig.returnType = ret → meth.locks = false → c.exceptionTable.toList = tableOf hh → lv_has ls maxL (lv_args 0 av) → s.heap = H → GK G H s → GN s →
      W p l e rm s m av.toArray below meth c H [] 0 0 (wl_Q below G A o H av s L ko x f g f' g') (F0 m 0 ls [])) : WLV l G A o H y ws rm av L ko x f g f' g' := by
  refine wl_ofH (cc := cc) (maxL := maxL) (ret := ret) (hh := hh) hy hw ?_
  intro p e s m args below meth c s₁ B hml ht hv
  obtain ⟨rfl, hH, hG, hN⟩ := hv
  have hl := lv_entry av (n := maxL) ha
  rw [lg_entry_eq, hH]
  exact body p e s m below meth c _ ⟨B.exec, B.bytes, hml, findClass_of_methodNamed B.named, atoms_spec (ws := ws) B.pre⟩ B.returns B.notSynchronized ht hl hH hG hN
/-- a reader of the class as one that may write -/
theorem wx_of_rx {l : Launch} {G : GT} {A : Nat → Nat} {H : Heap} {y : MethodName} {ws : List Cond} {rm : Room} {av : List Value} {ko : Option String} {v : Option Value} {f : Nat → Nat → Int32} {g : Nat → Nat} (h : RxV l G H y ws rm av ko v) (hR : RP G A f g H) : WxV l G A H y ws rm av ko v f g := by
  intro p e ha hc hk s m args below hf happ hPre hK
  obtain ⟨n, o, h1, h2, h3, h4⟩ := h p e ha hc hk s m args below hf happ hPre hK
  refine ⟨n, o, h1, h2, h3, ?_⟩
  rcases h4 with ⟨⟨k1, k2, k3⟩, L, k4, k5⟩ | ⟨q, k1, E, ce, L, k2, k3, k4, k5, k6, k7, k8⟩
  · exact Or.inl ⟨⟨k1, k2, by rw [k3]; exact hR, by rw [k3]; exact chg.rf⟩, L, k4, fun q hq => (k5 q hq).elim⟩
  · exact Or.inr ⟨q, k1, E, ce, L, k2, k3, k4, k5, k6, k7, fun z hz => (k8 z hz).elim⟩
section QWL
variable {p : Program} {l : Launch} {e : Env} {R : Room} {s : State} {m : MethodId} {args : Array Value} {below : List Frame} {meth : Method} {c : Code} {H H1 : Heap} {locs : List Loc} {cells slots : Nat} {Q : State → Prop}
variable {Ts ws ws' : List Cond} {cc bytes : ByteArray} {nL maxL index n : Nat} {own C : String} {y : MethodName} {ret : Option FieldType} {rm : Room} {b a pc : Nat} {As rest st0 : List Value} {ls : Array Slot} {G : GT} {v : Option Value} {av : List Value} {ko : Option String} {A : Nat → Nat} {f f' : Nat → Nat → Int32} {g g' : Nat → Nat} {o : Nat} {x : Int32} {L : List String}
theorem wl_V (S : CallFix p m c cc nL s args Ts own) (hG : GK G H s) (hA : RA G A) (hH : WxV l G A H y ws rm (.ref b :: As) ko v f' g') (hT : GoodIn Ts (wsV own index C y ws)) (hw : ws = Cond.code y bytes maxL ret :: ws') (h0 : rm.cells = 1 ∧ rm.slots = 6) (hd : nmV y C n) (hR : rm.frames + 1 ≤ R.frames ∧ 8 + (maxL + 11) + rm.locals ≤ R.locals)
    (hcell : ∃ cell : Cell, H[b]? = some cell ∧ cell.vm.isStatics = false ∧ s.vm.findClass C = some cell.cls) (hn : As.length = n) (hsz : ls.size = nL) (hst : st0 = As.reverse ++ .ref b :: rest) (hW : (rest.map fun v => v.category).sum ≤ 8) (hf : 1 ≤ R.cells ∧ 6 ≤ R.slots) (hdg : decode cc pc = .ok (.invokevirtual index, 3))
    (kn : ko = none → ∀ (H2 : Heap) (locs2 : List Loc), RP G A f' g' H2 → chg A H H2 → (∀ q ∈ locs2, ∃ k, rD k ∧ q.base = A k) → GK G H2 s → W p l e R s m args below meth c H2 locs2 1 6 Q (F0 m (pc + 3) ls (v.toList ++ rest)))
    (kx : ∀ (E : String) (H2 : Heap) (locs2 : List Loc) (q : Addr) (ce : Cell), ko = some E → ext H H2 → (∀ q ∈ locs2, ∃ k, rD k ∧ q.base = A k) → GK G H2 s → H2[q]? = some ce → ce.vm = .none → s.vm.findClass E = some ce.cls → vx_W p l e R s m args below meth c H2 locs2 1 6 Q (F0 m pc ls rest) q) :
    W p l e R s m args below meth c H [] 0 0 Q (F0 m pc ls st0) := by
  intro T hTT X
  rcases vx_runV S hH (cwV n S.2.2.2.2 hT hw h0.1 h0.2 hd hR) ⟨rd_blind, hcell, fun U hU hWW => ⟨rfl, hU, GK.warm hWW hG⟩⟩ rfl hn hsz hst (lv_room hW) hdg ⟨by simpa using hf.1, by simpa using hf.2⟩ T hTT X with ⟨v', st₀, t, T', L9, h0, X', hL, e1, e2, ⟨hk1, hv, hR1, hch⟩, st⟩ | ⟨q, st₀, t, T', L9, E, ce, h0, X', hL, e1, e2, ⟨hk2, hext⟩, hce, hcv, hcl, st⟩
  · cases hv
    obtain ⟨t2, a1, b1⟩ := kn hk1 T'.heap ([] ++ L9) (by rw [e1]; exact hR1) (by rw [e1]; exact hch) (fun q hq => hL q hq) (by rw [e1]; exact chg.gk hA hch hG) T' rfl X'
    exact ⟨t2, st t2 a1, b1⟩
  · obtain ⟨t2, a1, b1⟩ := kx E T'.heap ([] ++ L9) q ce hk2 (by rw [e1]; exact hext) (fun q hq => hL q hq) (by rw [e1]; exact gk_ext hext hG) (by rw [e1]; exact hce) hcv hcl T' rfl X'
    exact ⟨t2, st.trans a1, b1⟩
/-- a long into the array for answers -/
theorem wl_last {r : Nat → Int64} {xx : Int64} (S : CallFix p m c cc nL s args Ts own) (hG : GV G s) (hat : va_at G.1 vwCl (o, oL G r) H) (hdg : decode cc pc = .ok (.lastore, 1))
    (kk : ∀ (H1 : Heap) (z : Loc), z.base = o → va_at G.1 vwCl (o, oL G (vp_updL r 0 xx)) H1 → H1.size = H.size → (∀ q : Nat, q ≠ o → H1[q]? = H[q]?) → W p l e R s m args below meth c H1 (locs ++ [z]) cells slots Q (F0 m (pc + 1) ls rest)) : W p l e R s m args below meth c H locs cells slots Q (F0 m pc ls (.long xx :: .int 0 :: .ref o :: rest)) := by
  have hz : (0 : Int32).toNatClampNeg = 0 := by decide
  refine W.last S.1 S.2.1 hat ((hG.1.2 3 _ rfl).1 1 (fun j => .long (r j))) (fun q => by cases q) (by show ¬ ((0 : Int32) < 0 ∨ (arrV _ _ _).slots.size ≤ _); rw [arrV_size, hz]; show ¬ ((0 : Int32) < 0 ∨ (1 : Nat) ≤ 0); decide) rfl rfl hdg fun H1 e z oq => ?_
  refine kk H1 _ rfl ?_ z oq
  show H1[o]? = some (vp_cell _ _)
  rw [e, hz]
  rw [vp_cell_l, vp_cell_l, arrV_store]
  congr 2
  funext q
  by_cases hq : q = 0
  · subst hq
    simp [updV, vp_updL]
  · simp [updV, vp_updL, hq]
theorem wl_dast {r : Nat → UInt64} {xx : UInt64} (S : CallFix p m c cc nL s args Ts own) (hG : GV G s) (hat : va_at G.1 vwCl (o, oD G r) H) (hdg : decode cc pc = .ok (.dastore, 1))
    (kk : ∀ (H1 : Heap) (z : Loc), z.base = o → va_at G.1 vwCl (o, oD G (vf_upd r 0 xx)) H1 → H1.size = H.size → (∀ q : Nat, q ≠ o → H1[q]? = H[q]?) → W p l e R s m args below meth c H1 (locs ++ [z]) cells slots Q (F0 m (pc + 1) ls rest)) : W p l e R s m args below meth c H locs cells slots Q (F0 m pc ls (.double xx :: .int 0 :: .ref o :: rest)) := by
  have hz : (0 : Int32).toNatClampNeg = 0 := by decide
  refine W.dast S.1 S.2.1 hat ((hG.1.2 4 _ rfl).1 1 (fun j => .double (r j))) (fun q => by cases q) (by show ¬ ((0 : Int32) < 0 ∨ (arrV _ _ _).slots.size ≤ _); rw [arrV_size, hz]; show ¬ ((0 : Int32) < 0 ∨ (1 : Nat) ≤ 0); decide) rfl rfl hdg fun H1 e z oq => ?_
  refine kk H1 _ rfl ?_ z oq
  show H1[o]? = some (vp_cell _ _)
  rw [e, hz]
  rw [vp_cell_d, vp_cell_d, arrV_store]
  congr 2
  funext q
  by_cases hq : q = 0
  · subst hq
    simp [updV, vf_upd]
  · simp [updV, vf_upd, hq]
/-- a wrapper's end behind a throw -/
theorem wl_iretx {E : String} {kk9 : Int32} (S : CallFix p m c cc nL s av.toArray Ts own) (hr : meth.sig.returnType = some .int) (hlocks : meth.locks = false) (hk : ko = some E) (he : ecd L ko = kk9) (hext : ext H H1) (hA0 : ∀ q ∈ locs, ∃ k, rD k ∧ q.base = A k) (hRP : RP G A f g H) (hlt : ∀ k, rD k → A k < H.size) {r : Nat → Int64} (ho : va_at G.1 vwCl (o, oL G r) H) (hdg : decode cc pc = .ok (.ireturn, 1)) :
    W p l e R s m av.toArray below meth c H1 locs 1 6 (wl_Q below G A o H av s L ko x f g f' g') (F0 m pc ls [.int kk9]) :=
  W.iret S.1 S.2.1 hr (fun t ht _ => ⟨by rw [he], by rw [ht]; exact ⟨hext.1, fun q hq _ _ => hext.2 q hq⟩, fun z => (by rw [hk] at z; cases z), fun _ => by rw [ht]; exact ⟨⟨hRP.1, fun k hk9 => (hRP.2 k hk9).kept (hext.2 _ (hlt k hk9))⟩, r, va_at.kept ho (hext.2 _ (va_at.lt ho))⟩⟩) (fun q hq => Or.inl (hA0 q hq)) hdg hlocks
/-- a wrapper's end behind an answer -/
theorem wl_iret (S : CallFix p m c cc nL s av.toArray Ts own) (hr : meth.sig.returnType = some .int) (hlocks : meth.locks = false) (hk : ko = none) (hch : chg A H H1) (hA0 : ∀ q ∈ locs, ∃ k, rD k ∧ q.base = A k) (hRP : RP G A f' g' H1) (hoA : ∀ k, rD k → o ≠ A k) {H2 : Heap} {z : Loc} (hz : z.base = o) {r : Nat → Int64} (hr0 : r 0 = x.toInt64) (ho : va_at G.1 vwCl (o, oL G r) H2) (hzs : H2.size = H1.size) (hq2 : ∀ q : Nat, q ≠ o → H2[q]? = H1[q]?) (hdg : decode cc pc = .ok (.ireturn, 1)) :
    W p l e R s m av.toArray below meth c H2 (locs ++ [z]) 1 6 (wl_Q below G A o H av s L ko x f g f' g') (F0 m pc ls [.int 0]) :=
  W.iret S.1 S.2.1 hr (fun t ht _ => ⟨by rw [hk]; rfl, by rw [ht]; exact ⟨by rw [hzs]; exact hch.1, fun q hq h1 h2 => (hq2 q h2).trans (hch.2 q hq h1)⟩, fun _ => by rw [ht]; exact ⟨⟨hRP.1, fun k hk9 => (hRP.2 k hk9).kept (hq2 _ (Ne.symm (hoA k hk9)))⟩, r, hr0, ho⟩, fun z => absurd hk z⟩) (fun q hq => (List.mem_append.mp hq).elim (fun h => Or.inl (hA0 q h)) fun h => Or.inr (by rw [List.mem_singleton.mp h]; exact hz)) hdg hlocks
end QWL
theorem rp_lt {G : GT} {A : Nat → Nat} {f : Nat → Nat → Int32} {g : Nat → Nat} {H : Heap} (h : RP G A f g H) : ∀ k, rD k → A k < H.size := fun k hk => va_at.lt (h.2 k hk)
