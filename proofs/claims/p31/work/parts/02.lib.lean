/-! ===== my own library: contracts of methods that leave the heap as it is ===== -/
/-- one cell's fact as a world of one cell -/
theorem q_P1 {D : va_G} {cl : List vw_C} {x : Nat × va_E} {H : Heap} (h : va_at D cl x H) : va_P D cl [x] H := by
  intro k q hq
  match k, hq with
  | 0, hq => cases hq; exact h
  | k + 1, hq => simp at hq
/-- words of the tables that stay though they aren't 'good' -/
def gk_ok : Cond → Bool
  | .fieldLinkNest .. => true
  | .methodLinkNest .. => true
  | .castable .. => true
  | .declares .. => true
  | _ => false
theorem gk_warm1 {w : Cond} (h : gk_ok w = true) {s U : State} (hW : s.WarmedH U.vm) (hZ : va_Nw w s) : va_Nw w U := by
  cases w <;> first | exact va_Nw.warmF hW hZ | exact va_Nw.warmM hW hZ | exact va_Nw.warmC hW hZ | exact va_Nw.warmD hW hZ | (exfalso; revert h; simp [gk_ok])
def gk_strs : List (Nat × String) := [(318, "a number is out of its bounds"), (303, "no such obstacle"), (306, "no such procedure"), (308, "no such notice"), (314, "no such crew"), (71, "there were 12 obstacles"), (312, "no such aid"), (125, "there were 4 procedures"), (129, "now would be behind the last day"), (144, "no amendment can be made"), (310, "there were 16 notices"), (163, "a cancel cannot be cancelled")]
/-- the tables' knowledge: classes and the array class (0 int); no cell from z0 on is one that was there at the start; the script: its address, its length, its numbers -/
abbrev GT : Type := va_G × (Nat → ClassId) × Nat × (Nat × Nat × (Nat → Int32))
abbrev gk_tys (G : GT) : List (ClassId × FieldType) := [(G.2.1 0, .int)]
def GV (G : GT) (U : State) : Prop := va_K G.1 vwCl (gk_tys G) U ∧ (∀ w ∈ tables_1, gk_ok w = true → va_Nw w U) ∧ (∀ q ∈ gk_strs, ∃ sa, vk_R RX7 q.1 q.2 sa U) ∧ True
def bases : Nat → Int32 := fun j => if j = 0 then 200 else if j = 1 then 250 else 300
def margins : Nat → Int32 := fun j => if j = 0 then 30 else if j = 1 then 75 else 90
/-- the script, as it stands in every heap of the run -/
def XS (G : GT) (H : Heap) (U : State) : Prop := va_X G.2.2.2.1 G.2.2.2.2.1 G.2.2.2.2.2 U H ∧ G.2.2.2.1 < G.2.2.1 ∧ G.2.2.2.2.1 ≤ 260
theorem XS.moved {G : GT} {H : Heap} {u U : State} (hvm : u.vm.Alike U.vm) (h : XS G H u) : XS G H U := ⟨va_X.moved hvm h.1, h.2⟩
theorem XS.heap {G : GT} {H H1 : Heap} {U : State} (h : XS G H U) (hq : ∀ a : Nat, a < H.size → ¬ G.2.2.1 ≤ a → H1[a]? = H[a]?) : XS G H1 U := by
  obtain ⟨h1, h2⟩ := h
  have h3 := h1
  obtain ⟨scr, e, -⟩ := h3
  exact ⟨va_X.kept h1 (hq _ (Array.getElem?_eq_some_iff.mp e).1 (Nat.not_le.mpr h2.1)), h2⟩
def GZ (G : GT) (H : Heap) (U : State) : Prop := vx_Zq Bundle.tN "UNASSIGNED_STACK" Bundle.steD (fun q => G.2.2.1 ≤ q) U H ∧ vx_Zq Bundle.tN "SUPPRESSED_SENTINEL" Bundle.listD (fun q => G.2.2.1 ≤ q) U H ∧ XS G H U
def GK (G : GT) (H : Heap) (U : State) : Prop := GV G U ∧ GZ G H U
theorem GV.warm {G : GT} {s U : State} (hW : s.WarmedH U.vm) (h : GV G s) : GV G U :=
  ⟨va_K.moved hW.alike h.1, fun w hw ho => gk_warm1 ho hW (h.2.1 w hw ho), fun q hq => by obtain ⟨sa, h3⟩ := h.2.2.1 q hq; exact ⟨sa, vk_R.warm hW h3⟩, trivial⟩
theorem GK.warm {G : GT} {H : Heap} {s U : State} (hW : s.WarmedH U.vm) (h : GK G H s) : GK G H U :=
  ⟨h.1.warm hW, vx_Zq.moved hW.alike h.2.1, vx_Zq.moved hW.alike h.2.2.1, XS.moved hW.alike h.2.2.2⟩
theorem GK.same {G : GT} {H : Heap} {s U : State} (hv : U.vm = s.vm) (h : GK G H s) : GK G H U :=
  GK.warm (s := s) (U := U) (by rw [hv]; exact State.WarmedH.refl s) h
theorem GK.heap {G : GT} {H H1 : Heap} {s : State} (h : GK G H s) (hq : ∀ a : Nat, a < H.size → ¬ G.2.2.1 ≤ a → H1[a]? = H[a]?) : GK G H1 s :=
  ⟨h.1, vx_Zq.kept h.2.1 hq, vx_Zq.kept h.2.2.1 hq, XS.heap h.2.2.2 hq⟩
/-- a method that answers v and leaves the heap H as it is -/
def RdV (l : Launch) (G : GT) (H : Heap) (y : MethodName) (ws : List Cond) (rm : Room) (av : List Value) (v : Option Value) : Prop :=
  Met l y ws rm (va_Pc av (fun U => U.heap = H ∧ GK G H U)) (fun _ _ o t => o = .returned v ∧ t.heap = H) 0 0 (fun _ => False)
theorem rd_blind {G : GT} {H : Heap} {av : List Value} : FrameBlind (va_Pc av (fun U => U.heap = H ∧ GK G H U)) :=
  fun a U g mk q => ⟨q.1, q.2.1, GK.same (s := U) (U := U.calling g mk a) rfl q.2.2⟩
abbrev rd_Q (below : List Frame) (H : Heap) (av : List Value) (s : State) (v : Option Value) : State → Prop := MQ below (fun _ _ o t => o = .returned v ∧ t.heap = H) av.toArray s 0 0 (fun _ => False)
theorem rd_of {l : Launch} {G : GT} {H : Heap} {y : MethodName} {ws ws' : List Cond} {rm : Room} {av : List Value} {v : Option Value} {cc : ByteArray} {maxL : Nat} {ret : Option FieldType}
    (hy : plainName y.cls = true) (hw : ws = Cond.code y cc maxL ret :: ws') (ha : (lg_sl av).length ≤ maxL)
    (body : ∀ (p : Program) (e : Env) (s : State) (m : MethodId) (below : List Frame) (meth : Method) (c : Code) (ls : Array Slot), CallFix p m c cc maxL s av.toArray ws y.cls → meth.sig.returnType = ret → meth.locks = false → lv_has ls maxL (lv_args 0 av) → s.heap = H → GK G H s →
      W p l e rm s m av.toArray below meth c H [] 0 0 (rd_Q below H av s v) (F0 m 0 ls [])) : RdV l G H y ws rm av v := by
  refine Met.ofW (cc := cc) (maxL := maxL) (ret := ret) hy hw ?_
  intro p e s m args below meth c s₁ B hml hv
  obtain ⟨rfl, hH, hG⟩ := hv
  have hl := lv_entry av (n := maxL) ha
  rw [lg_entry_eq, hH]
  exact body p e s m below meth c _ ⟨B.exec, B.bytes, hml, findClass_of_methodNamed B.named, atoms_spec (ws := ws) B.pre⟩ B.returns B.notSynchronized hl hH hG
section QL
variable {p : Program} {l : Launch} {e : Env} {R : Room} {s : State} {m : MethodId} {args : Array Value} {below : List Frame} {meth : Method} {c : Code} {H : Heap} {locs : List Loc} {cells slots : Nat} {Q : State → Prop}
variable {Ts ws ws' : List Cond} {cc bytes : ByteArray} {nL maxL index n : Nat} {own C : String} {y : MethodName} {ret : Option FieldType} {rm : Room} {b a pc : Nat} {As rest st0 : List Value} {ls : Array Slot} {G : GT} {v : Option Value} {av : List Value}
theorem rd_iret {x : Int32} (S : CallFix p m c cc nL s av.toArray Ts own) (hr : meth.sig.returnType = some .int) (hlocks : meth.locks = false) (hdg : decode cc pc = .ok (.ireturn, 1)) (hv : v = some (.int x)) :
    W p l e R s m av.toArray below meth c H [] 0 0 (rd_Q below H av s v) (F0 m pc ls [.int x]) :=
  W.iret S.1 S.2.1 hr (fun t ht _ => ⟨by rw [hv], ht⟩) (fun _ h => nomatch h) hdg hlocks
theorem rd_zret {x : Int32} {ty : FieldType} (S : CallFix p m c cc nL s av.toArray Ts own) (hr : meth.sig.returnType = some ty) (hlocks : meth.locks = false) (hdg : decode cc pc = .ok (.ireturn, 1)) (hn : narrow ty (.int x) = .int x) (hv : v = some (.int x)) :
    W p l e R s m av.toArray below meth c H [] 0 0 (rd_Q below H av s v) (F0 m pc ls [.int x]) :=
  W.zret S.1 S.2.1 hr hn (fun t ht _ => ⟨by rw [hv], ht⟩) (fun _ h => nomatch h) hdg hlocks
/-- a cell's class, for a call on it -/
theorem rd_rcv {ci : Nat} {q : vw_C} {fs : List Value} (hG : GV G s) (hat : va_at G.1 vwCl (a, .inr (ci, fs)) H) (hc : vwCl[ci]? = some q) : ∃ cell : Cell, H[a]? = some cell ∧ cell.vm.isStatics = false ∧ s.vm.findClass q.1 = some cell.cls :=
  va_recv hG.1 (q_P1 hat) (q0 := 0) hc rfl
theorem rd_get {T : u_T} {N ci : Nat} {fs : List Value} {x : Value} (S : CallFix p m c cc nL s args Ts own) (hG : GV G s) (hin : ∀ w ∈ u_ws C T N, w ∈ Ts) (hat : va_at G.1 vwCl (a, .inr (ci, fs)) H) (k : Nat) (hc : vwCl[ci]? = some (C, T, N)) (hk : k < N) (hlink : (Cond.fieldLink own index (T k).1 (T k).2.1 (T k).2.2.1).before args s = true) (hv : fs[k]? = some x) (hdg : decode cc pc = .ok (.getfield index, 3))
    (kk : W p l e R s m args below meth c H locs cells slots Q (F0 m (pc + 3) ls (x :: rest))) : W p l e R s m args below meth c H locs cells slots Q (F0 m pc ls (.ref a :: rest)) :=
  va_get S.1 S.2.1 S.2.2.2.2 hin S.2.2.2.1 hG.1 (q_P1 hat) 0 rfl hc k hk hlink (fun _ h => h) hv hdg kk
theorem rd_getN {T : u_T} {N ci : Nat} {host : String} {fs : List Value} {x : Value} (S : CallFix p m c cc nL s args Ts own) (hG : GV G s) (hin : ∀ w ∈ u_ws C T N, w ∈ Ts) (hat : va_at G.1 vwCl (a, .inr (ci, fs)) H) (k : Nat) (hc : vwCl[ci]? = some (C, T, N)) (hk : k < N) (hmem : Cond.fieldLinkNest own index (T k).1 (T k).2.1 (T k).2.2.1 host ∈ tables_1) (hv : fs[k]? = some x) (hdg : decode cc pc = .ok (.getfield index, 3))
    (kk : W p l e R s m args below meth c H locs cells slots Q (F0 m (pc + 3) ls (x :: rest))) : W p l e R s m args below meth c H locs cells slots Q (F0 m pc ls (.ref a :: rest)) :=
  va_getN S.1 S.2.1 S.2.2.2.2 hin S.2.2.2.1 hG.1 (q_P1 hat) 0 rfl hc k hk (va_Nw.use rfl (hG.2.1 _ hmem rfl)) (fun _ h => h) hv hdg kk
theorem rd_iald {n : Nat} {f : Nat → Int32} {i : Int32} (S : CallFix p m c cc nL s args Ts own) (hG : GV G s) (hat : va_at G.1 vwCl (a, .inl (G.2.1 0, n, .inl f)) H) (hin : vp_in i n) (hdg : decode cc pc = .ok (.iaload, 1))
    (kk : W p l e R s m args below meth c H locs cells slots Q (F0 m (pc + 1) ls (.int (f i.toNatClampNeg) :: rest))) : W p l e R s m args below meth c H locs cells slots Q (F0 m pc ls (.int i :: .ref a :: rest)) :=
  va_iald S.1 S.2.1 hG.1 (q_P1 hat) 0 0 rfl rfl hin hdg kk
theorem rd_alen {n : Nat} {f : Nat → Int32} (S : CallFix p m c cc nL s args Ts own) (hG : GV G s) (hat : va_at G.1 vwCl (a, .inl (G.2.1 0, n, .inl f)) H) (hdg : decode cc pc = .ok (.arraylength, 1))
    (kk : W p l e R s m args below meth c H locs cells slots Q (F0 m (pc + 1) ls (.int (nI n) :: rest))) : W p l e R s m args below meth c H locs cells slots Q (F0 m pc ls (.ref a :: rest)) :=
  va_alen S.1 S.2.1 hG.1 (q_P1 hat) 0 0 rfl rfl rfl hdg kk
theorem rd_run (a : Array Value) (hr : va_Run p l e R s m args below meth c H locs cells slots 0 0 (F0 m pc ls st0) rest ((fun (_ : Array Value) (_ : State) (o : Outcome) (t : State) => o = .returned v ∧ t.heap = H) a) (fun _ => False))
    (kk : W p l e R s m args below meth c H locs cells slots Q (F0 m (pc + 3) ls (v.toList ++ rest))) : W p l e R s m args below meth c H locs cells slots Q (F0 m pc ls st0) := by
  intro T hT X
  obtain ⟨v', st₀, t, T', L, h0, X', hL, e1, -, ⟨hv, hh⟩, st⟩ := hr T hT X
  cases hv
  obtain ⟨t2, a1, b1⟩ := kk T' (by rw [e1, hh]) (by
    have h : L = [] := by
      cases L with
      | nil => rfl
      | cons z r => exact (hL z List.mem_cons_self).elim
    subst h
    rw [List.append_nil] at X'
    exact X')
  exact ⟨t2, st t2 a1, b1⟩
/-- what a program decides of a method's name -/
abbrev nmV (y : MethodName) (C : String) (n : Nat) : Prop := y.cls = C ∧ y.cls ≠ "java/lang/invoke/MethodHandle" ∧ y.cls ≠ "java/lang/invoke/VarHandle" ∧ (parseMethodDescriptor y.desc).map (fun d => d.parameters.length) = some n
theorem rd_V (S : CallFix p m c cc nL s args Ts own) (hG : GK G H s) (hH : RdV l G H y ws rm (.ref b :: As) v) (hT : GoodIn Ts (wsV own index C y ws)) (hw : ws = Cond.code y bytes maxL ret :: ws') (h0 : rm.cells = 0 ∧ rm.slots = 0) (hd : nmV y C n) (hR : rm.frames + 1 ≤ R.frames ∧ 8 + (maxL + 11) + rm.locals ≤ R.locals)
    (hcell : ∃ cell : Cell, H[b]? = some cell ∧ cell.vm.isStatics = false ∧ s.vm.findClass C = some cell.cls) (hn : As.length = n) (hsz : ls.size = nL) (hst : st0 = As.reverse ++ .ref b :: rest) (hW : (rest.map fun v => v.category).sum ≤ 8) (hf : cells ≤ R.cells ∧ slots ≤ R.slots) (hdg : decode cc pc = .ok (.invokevirtual index, 3))
    (kk : W p l e R s m args below meth c H locs cells slots Q (F0 m (pc + 3) ls (v.toList ++ rest))) : W p l e R s m args below meth c H locs cells slots Q (F0 m pc ls st0) :=
  rd_run (Value.ref b :: As).toArray (va_runV S hH (cwV n S.2.2.2.2 hT hw h0.1 h0.2 hd hR) ⟨rd_blind, hcell, fun U hU hWW => ⟨rfl, hU, GK.warm hWW hG⟩⟩ rfl hn hsz hst (lv_room hW) hdg hf) kk
theorem rd_S (S : CallFix p m c cc nL s args Ts own) (hG : GK G H s) (hH : RdV l G H y ws rm As v) (hT : GoodIn Ts (va_wsS own index y ws)) (hw : ws = Cond.code y bytes maxL ret :: ws') (h0 : rm.cells = 0 ∧ rm.slots = 0) (hd : nmV y C n) (hR : rm.frames + 1 ≤ R.frames ∧ 8 + (maxL + 11) + rm.locals ≤ R.locals)
    (hn : As.length = n) (hsz : ls.size = nL) (hst : st0 = As.reverse ++ rest) (hW : (rest.map fun v => v.category).sum ≤ 8) (hf : cells ≤ R.cells ∧ slots ≤ R.slots) (hdg : decode cc pc = .ok (.invokestatic index, 3))
    (kk : W p l e R s m args below meth c H locs cells slots Q (F0 m (pc + 3) ls (v.toList ++ rest))) : W p l e R s m args below meth c H locs cells slots Q (F0 m pc ls st0) :=
  rd_run As.toArray (va_runS S hH (va_cwS n S.2.2.2.2 hT hw h0.1 h0.2 hd.2 hR) ⟨rd_blind, fun U hU hWW => ⟨rfl, hU, GK.warm hWW hG⟩⟩ rfl hn hsz hst (lv_room hW) hdg hf) kk
theorem rd_max (S : CallFix p m c cc nL s args Ts own) (hsz : ls.size = nL) (hi : [.methodLink own index Lib.Math.max.name, .static Lib.Math.max.name, .initialized "java/lang/Math", .code Lib.Math.max.name Lib.Math.max.code 2 (some .int)] ⊆ Ts) (hR : 1 ≤ R.frames ∧ 21 ≤ R.locals) (hW : (rest.map fun v => v.category).sum ≤ 8) (hf : cells ≤ R.cells ∧ slots ≤ R.slots) {x y : Int32} (hdg : decode cc pc = .ok (.invokestatic index, 3))
    (kk : W p l e R s m args below meth c H locs cells slots Q (F0 m (pc + 3) ls (.int (if x < y then y else x) :: rest))) : W p l e R s m args below meth c H locs cells slots Q (F0 m pc ls (.int y :: .int x :: rest)) :=
  va_mmax S.1 S.2.1 (S.2.2.1.trans hsz.symm) S.2.2.2.1 (S.2.2.2.2 _ (hi (by simp))) (S.2.2.2.2 _ (hi (by simp))) (S.2.2.2.2 _ (hi (by simp))) (S.2.2.2.2 _ (hi (by simp))) hR.1 (by omega) hf.1 hf.2 hdg kk
theorem rd_min (S : CallFix p m c cc nL s args Ts own) (hsz : ls.size = nL) (hi : [.methodLink own index Lib.Math.min.name, .static Lib.Math.min.name, .initialized "java/lang/Math", .code Lib.Math.min.name Lib.Math.min.code 2 (some .int)] ⊆ Ts) (hR : 1 ≤ R.frames ∧ 21 ≤ R.locals) (hW : (rest.map fun v => v.category).sum ≤ 8) (hf : cells ≤ R.cells ∧ slots ≤ R.slots) {x y : Int32} (hdg : decode cc pc = .ok (.invokestatic index, 3))
    (kk : W p l e R s m args below meth c H locs cells slots Q (F0 m (pc + 3) ls (.int (if y < x then y else x) :: rest))) : W p l e R s m args below meth c H locs cells slots Q (F0 m pc ls (.int y :: .int x :: rest)) :=
  va_mmin S.1 S.2.1 (S.2.2.1.trans hsz.symm) S.2.2.2.1 (S.2.2.2.2 _ (hi (by simp))) (S.2.2.2.2 _ (hi (by simp))) (S.2.2.2.2 _ (hi (by simp))) (S.2.2.2.2 _ (hi (by simp))) hR.1 (by omega) hf.1 hf.2 hdg kk
theorem rd_abs (S : CallFix p m c cc nL s args Ts own) (hsz : ls.size = nL) (hi : [.methodLink own index Lib.Math.abs.name, .static Lib.Math.abs.name, .initialized "java/lang/Math", .code Lib.Math.abs.name Lib.Math.abs.code 1 (some .int)] ⊆ Ts) (hR : 1 ≤ R.frames ∧ 21 ≤ R.locals) (hW : (rest.map fun v => v.category).sum ≤ 8) (hf : cells ≤ R.cells ∧ slots ≤ R.slots) {x : Int32} (hdg : decode cc pc = .ok (.invokestatic index, 3))
    (kk : W p l e R s m args below meth c H locs cells slots Q (F0 m (pc + 3) ls (.int (if 0 ≤ x then x else 0 - x) :: rest))) : W p l e R s m args below meth c H locs cells slots Q (F0 m pc ls (.int x :: rest)) :=
  va_mabs S.1 S.2.1 (S.2.2.1.trans hsz.symm) S.2.2.2.1 (S.2.2.2.2 _ (hi (by simp))) (S.2.2.2.2 _ (hi (by simp))) (S.2.2.2.2 _ (hi (by simp))) (S.2.2.2.2 _ (hi (by simp))) hR.1 (by omega) hf.1 hf.2 hdg kk
end QL
