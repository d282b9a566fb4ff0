/-! ===== new objects and their constructors ===== -/
section QMN
variable {p : Program} {l : Launch} {e : Env} {R : Room} {s : State} {m : MethodId} {args : Array Value} {below : List Frame} {meth : Method} {c : Code} {H H1 : Heap} {locs : List Loc} {cells slots : Nat} {Q : State → Prop}
variable {Ts ws ws' : List Cond} {cc bytes : ByteArray} {nL maxL index n : Nat} {own C : String} {y : MethodName} {ret : Option FieldType} {rm : Room} {b a pc nc ns ncc nss : Nat} {As rest st0 : List Value} {ls : Array Slot} {G : GT} {v : Option Value} {av : List Value} {D D1 : Nat → Prop} {P : Option Value → Heap → Prop}
theorem mw_ofI (hy : plainName y.cls = true) (hw : ws = Cond.code y cc maxL ret :: ws') (ha : (lg_sl av).length ≤ maxL)
    (body : ∀ (p : Program) (e : Env) (s : State) (m : MethodId) (below : List Frame) (meth : Method) (c : Code) (ls : Array Slot), CallFix p m c cc maxL s av.toArray ws y.cls → meth.sig.returnType = ret → meth.locks = false → meth.name = y.name → lv_has ls maxL (lv_args 0 av) → s.heap = H → GK G H s → GX s →
      W p l e rm s m av.toArray below meth c H [] 0 0 (mw_Q below D H av s nc ns P) (F0 m 0 ls [])) : MwV l G D H y ws rm av nc ns P := by
  refine Met.ofW (cc := cc) (maxL := maxL) (ret := ret) hy hw ?_
  intro p e s m args below meth c s₁ B hml hv
  obtain ⟨rfl, hH, hG, hGX⟩ := hv
  have hl := lv_entry av (n := maxL) ha
  rw [lg_entry_eq, hH]
  exact body p e s m below meth c _ ⟨B.exec, B.bytes, hml, findClass_of_methodNamed B.named, atoms_spec (ws := ws) B.pre⟩ B.returns B.notSynchronized (name_of_methodNamed B.named B.method).1 hl hH hG hGX
theorem mw_putF {T : u_T} {N ci : Nat} {fs : List Value} {ty : FieldType} {x : Value} (S : CallFix p m c cc nL s args Ts own) (hD : DP G D H.size) (hG : GK G H1 s) (hS : va_S D H H1 locs) (hda : D a) (hin : ∀ w ∈ u_ws C T N, w ∈ Ts) (ty0 : Nat → FieldType) (hty : ∀ k, k < N → parseFieldDescriptor (T k).2.2.1 = some (ty0 k)) (hnm : ∀ a, a < N → ∀ b, b < N → a ≠ b → (T a).2.1 ≠ (T b).2.1)
    (hat : va_at G.1 vwCl (a, .inr (ci, fs)) H1) (k : Nat) (hc : vwCl[ci]? = some (C, T, N)) (hk : k < N) (hlink : (Cond.fieldLink own index (T k).1 (T k).2.1 (T k).2.2.1).before args s = true) (hfin : (T k).2.2.2 = true) (hin2 : meth.name = "<init>") (hdecl : (T k).1 = own) (hd : parseFieldDescriptor (T k).2.2.1 = some ty) (hn : narrow ty x = x) (hfit : fits ty x = true) (hl : k < fs.length)
    (hdg : decode cc pc = .ok (.putfield index, 3)) (kk : ∀ (H2 : Heap) (locs2 : List Loc), va_at G.1 vwCl (a, .inr (ci, fs.set k x)) H2 → H2.size = H1.size → (∀ q : Nat, q ≠ a → H2[q]? = H1[q]?) → va_S D H H2 locs2 → GK G H2 s → W p l e R s m args below meth c H2 locs2 cells slots Q (F0 m (pc + 3) ls rest)) : W p l e R s m args below meth c H1 locs cells slots Q (F0 m pc ls (x :: .ref a :: rest)) := by
  have hap := va_apart (own := own) S.2.2.2.2 hin ty0 hty hnm hG.1.1 hc
  obtain ⟨r, h1, cell, q1, q2, q3, q4⟩ := hat
  have hr : r = (C, T, N) := Option.some.inj (h1.symm.trans hc)
  subst hr
  obtain ⟨hSl, hfc, kC, hkC, hkind⟩ := hG.1.1.1 ci _ hc
  obtain ⟨cf, kf, fi, fd, hi, hsl⟩ := hSl k hk
  have hlay := S.2.2.2.2 _ (hin _ (u_in_lay hk))
  unfold u_lay at hlay
  rw [if_pos hfin] at hlay
  have hst := (u_facts hfc hkC (u_lays S.2.2.2.2 hin hk) hi).1
  have hcf : m.cls = cf := by
    obtain ⟨_, _, c', _, _, _, -, -, hf', -, -, -, hown2, -⟩ := Cond.laysFinal_spec hlay
    have e1 : c' = cf := by have h9 := hi.symm.trans hf'; simp at h9; exact h9.1.symm
    rw [hdecl] at hown2
    rw [← e1]; exact Option.some.inj (S.2.2.2.1.symm.trans hown2)
  have h6 := u_fits hfc hkC hkind (Or.inr hlay) hi hd hn hfit
  refine W.putFinK S.1 S.2.1 S.2.2.2.1 hlink hi hst hcf hin2 (by rw [q2]; exact h6) q1 q3 (by rw [hsl]; exact k2_hasslot (q4 k hk)) rfl rfl hdg fun H2 e1 e2 e3 => ?_
  rw [hsl] at e1 ⊢
  exact kk H2 _ ⟨_, hc, t_OB.to (V := updV (vp_V fs) k x) ⟨_, e1, q2, q3, t_set q4 hap hk x⟩ (fun j _ => vp_updV_set hl x j)⟩ e2 e3 (hS.put e2 e3 hda) (hG.heap fun q _ hz => e3 q fun e => hz (by rw [e]; exact hD.2 a hda))
theorem mw_new {T : u_T} {N ci : Nat} {fs : List Value} (S : CallFix p m c cc nL s args Ts own) (hG : GK G H1 s) (hin : ∀ w ∈ u_ws C T N, w ∈ Ts) (ty : Nat → FieldType) (hty : ∀ k, k < N → parseFieldDescriptor (T k).2.2.1 = some (ty k)) (hcl : (Cond.classLink own index C).before args s = true) (hinst : (Cond.instantiable C N).before args s = true) (hini : (Cond.initialized C).before args s = true) (hc : vwCl[ci]? = some (C, T, N)) (hfs : ∀ j, j < N → defaultValue (ty j) = vp_V fs j) (hf : cells + 1 ≤ R.cells ∧ slots + N ≤ R.slots) (hdg : decode cc pc = .ok (.new index, 3))
    (kk : ∀ H2 : Heap, va_at G.1 vwCl (H1.size, .inr (ci, fs)) H2 → H2.size = H1.size + 1 → ext H1 H2 → W p l e R s m args below meth c H2 locs (cells + 1) (slots + N) Q (F0 m (pc + 3) ls (.ref H1.size :: rest))) : W p l e R s m args below meth c H1 locs cells slots Q (F0 m pc ls rest) := by
  have hKn := hG.1.1.1 ci _ hc
  refine W.newcK S.1 S.2.1 S.2.2.2.1 hcl hinst hini rfl hdg hf.1 hf.2 hKn.2.1 rfl fun H2 kC hkC e1 z1 o1 => ?_
  exact kk H2 ⟨_, hc, (u_born ty S.2.2.2.2 hin hKn hkC e1 hty).to hfs⟩ z1 ⟨by omega, o1⟩
theorem mw_I (S : CallFix p m c cc nL s args Ts own) (hD : DP G D H.size) (hGX : GX s) (hG : GK G H1 s) (hS : va_S D H H1 locs) (hH : MwV l G D1 H1 y ws rm (.ref b :: As) nc ns P) (hD1 : ∀ q, D1 q → D q) (hT : GoodIn Ts ws) (hw : ws = Cond.code y bytes maxL none :: ws') (h0 : rm.cells = nc ∧ rm.slots = ns) (hini : (Cond.initialized y.cls).before args s = true) (hlk : (Cond.methodLink own index y).before args s = true) (him : (Cond.instanceMethod y).before args s = true) (hy1 : y.name = "<init>") (hd : nmV y C n) (hR : rm.frames + 1 ≤ R.frames ∧ 8 + (maxL + 11) + rm.locals ≤ R.locals)
    (hn : As.length = n) (hsz : ls.size = nL) (hst : st0 = As.reverse ++ .ref b :: rest) (hW : (rest.map fun v => v.category).sum ≤ 8) (hf : cells + nc ≤ R.cells ∧ slots + ns ≤ R.slots) (hdg : decode cc pc = .ok (.invokespecial index, 3))
    (kk : ∀ (H2 : Heap) (locs2 : List Loc) (v : Option Value), va_S D H H2 locs2 → va_S D1 H1 H2 [] → P v H2 → GK G H2 s → W p l e R s m args below meth c H2 locs2 (cells + nc) (slots + ns) Q (F0 m (pc + 3) ls (v.toList ++ rest))) : W p l e R s m args below meth c H1 locs cells slots Q (F0 m pc ls st0) :=
  mw_run (Value.ref b :: As).toArray hD hG hS hD1 (va_runI S hH (cwI n S.2.2.2.2 hT hw h0.1 h0.2 hini hlk him hy1 hd.2 hR) ⟨mw_blind, fun U hU hWW => ⟨rfl, hU, GK.warm hWW hG, GX.warm hWW hGX⟩⟩ rfl hn hsz hst (lv_room hW) hdg hf) kk
end QMN
