/-! ===== my own library: methods of the class that write ===== -/
/-- the room's cells lie from z0 on, apart -/
def RA (G : GT) (A : Nat → Nat) : Prop := (∀ k, rD k → G.2.2.1 ≤ A k) ∧ ∀ j k, rD j → rD k → A j = A k → j = k
def rowPut (f : Nat → Nat → Int32) (k : Nat) (i v : Int32) : Nat → Nat → Int32 := fun j => if j = k then (if i < 0 then f j else if nI (rl k) ≤ i then f j else upd (f j) i.toNatClampNeg v) else f j
def gset (g : Nat → Nat) (c n : Nat) : Nat → Nat := fun j => if j = c then n else g j
/-- only cells of the room have changed -/
def chg (A : Nat → Nat) (H H1 : Heap) : Prop := H.size ≤ H1.size ∧ ∀ q : Nat, q < H.size → (∀ k, rD k → q ≠ A k) → H1[q]? = H[q]?
theorem chg.rf {A : Nat → Nat} {H : Heap} : chg A H H := ⟨Nat.le_refl _, fun _ _ _ => rfl⟩
theorem chg.tr {A : Nat → Nat} {H H1 H2 : Heap} (h1 : chg A H H1) (h2 : chg A H1 H2) : chg A H H2 :=
  ⟨Nat.le_trans h1.1 h2.1, fun q hq hk => (h2.2 q (Nat.lt_of_lt_of_le hq h1.1) hk).trans (h1.2 q hq hk)⟩
theorem chg.gk {G : GT} {A : Nat → Nat} {H H1 : Heap} {s : State} (hA : RA G A) (h : chg A H H1) (hG : GK G H s) : GK G H1 s :=
  hG.heap fun a ha hz => h.2 a ha fun k hk e => hz (e ▸ hA.1 k hk)
def MS (G : GT) (A : Nat → Nat) (H : Heap) (f : Nat → Nat → Int32) (g : Nat → Nat) (H1 : Heap) (locs : List Loc) : Prop := RP G A f g H1 ∧ chg A H H1 ∧ ∀ q ∈ locs, ∃ k, rD k ∧ q.base = A k
theorem MS.rf {G : GT} {A : Nat → Nat} {H : Heap} {f : Nat → Nat → Int32} {g : Nat → Nat} (h : RP G A f g H) : MS G A H f g H [] := ⟨h, chg.rf, fun _ q => nomatch q⟩
theorem rp_upd {G : GT} {A : Nat → Nat} {f f' : Nat → Nat → Int32} {g g' : Nat → Nat} {H H1 : Heap} {k : Nat} (hR : RP G A f g H) (hA : RA G A) (hk : rD k) (hn : va_at G.1 vwCl (A k, rC G A f' g' k) H1) (ho : ∀ q : Nat, q ≠ A k → H1[q]? = H[q]?) (hs : ∀ j, rD j → j ≠ k → rC G A f' g' j = rC G A f g j) (hg : ∀ j, g' j < 65536) : RP G A f' g' H1 := by
  refine ⟨hg, fun j hj => ?_⟩
  by_cases e : j = k
  · rw [e]; exact hn
  · rw [hs j hj e]
    exact (hR.2 j hj).kept (ho (A j) fun q => e (hA.2 j k hj hk q))
theorem ms_one {G : GT} {A : Nat → Nat} {f f' : Nat → Nat → Int32} {g g' : Nat → Nat} {H H1 H2 : Heap} {k : Nat} {locs : List Loc} {x : Loc} (hA : RA G A) (hM : MS G A H f g H1 locs) (hk : rD k) (hb : x.base = A k) (hn : va_at G.1 vwCl (A k, rC G A f' g' k) H2) (hz : H2.size = H1.size) (ho : ∀ q : Nat, q ≠ A k → H2[q]? = H1[q]?) (hs : ∀ j, rD j → j ≠ k → rC G A f' g' j = rC G A f g j) (hg : ∀ j, g' j < 65536) : MS G A H f' g' H2 (locs ++ [x]) := by
  refine ⟨rp_upd hM.1 hA hk hn ho hs hg, hM.2.1.tr ⟨Nat.le_of_eq hz.symm, fun q _ h => ho q (h k hk)⟩, fun q hq => ?_⟩
  rcases List.mem_append.mp hq with h | h
  · exact hM.2.2 q h
  · rw [List.mem_singleton.mp h]; exact ⟨k, hk, hb⟩
theorem rC_row {G : GT} {A : Nat → Nat} {f : Nat → Nat → Int32} {g : Nat → Nat} {k : Nat} (h : 10 ≤ k ∧ k < 30) : rC G A f g k = .inr (7, [.ref (A (k + 20))]) := by
  unfold rC
  rw [if_neg (by omega), if_neg (by omega), if_neg (by omega), if_neg (by omega), if_neg (by omega), if_neg (by omega), if_neg (by omega), if_pos (by omega)]
theorem rC_arr {G : GT} {A : Nat → Nat} {f : Nat → Nat → Int32} {g : Nat → Nat} {k : Nat} (h : 10 ≤ k ∧ k < 30) : rC G A f g (k + 20) = .inl (G.2.1 0, rl k, .inl (f k)) := by
  unfold rC
  rw [if_neg (by omega), if_neg (by omega), if_neg (by omega), if_neg (by omega), if_neg (by omega), if_neg (by omega), if_neg (by omega), if_neg (by omega), Nat.add_sub_cancel]
theorem rC_fo {G : GT} {A : Nat → Nat} {f f' : Nat → Nat → Int32} {g : Nat → Nat} {k j : Nat} (h : 10 ≤ k ∧ k < 30) (hf : ∀ q, q ≠ k → f' q = f q) (hj : j ≠ k + 20) : rC G A f' g j = rC G A f g j := by
  unfold rC
  by_cases h30 : j < 30
  · simp only [h30, if_true]
  · simp only [h30, if_false]
    rw [hf (j - 20) (by omega)]
theorem rl_lt (k : Nat) : rl k < 2 ^ 31 := by
  unfold rl
  repeat' split
  all_goals decide
theorem gset_lt {g : Nat → Nat} {c n : Nat} (hg : ∀ j, g j < 65536) (hn : n < 65536) : ∀ j, gset g c n j < 65536 := fun j => by
  unfold gset
  split
  · exact hn
  · exact hg j
/-- a method of the class that answers v and leaves the room with f', g' -/
def WrV (l : Launch) (G : GT) (A : Nat → Nat) (H : Heap) (y : MethodName) (ws : List Cond) (rm : Room) (av : List Value) (v : Option Value) (f' : Nat → Nat → Int32) (g' : Nat → Nat) : Prop :=
  Met l y ws rm (va_Pc av (fun U => U.heap = H ∧ GK G H U)) (fun _ _ o t => o = .returned v ∧ RP G A f' g' t.heap ∧ chg A H t.heap) 0 0 (fun q => ∃ k, rD k ∧ q = A k)
abbrev wr_Q (below : List Frame) (A : Nat → Nat) (G : GT) (H : Heap) (av : List Value) (s : State) (v : Option Value) (f' : Nat → Nat → Int32) (g' : Nat → Nat) : State → Prop := MQ below (fun _ _ o t => o = .returned v ∧ RP G A f' g' t.heap ∧ chg A H t.heap) av.toArray s 0 0 (fun q => ∃ k, rD k ∧ q = A k)
theorem wr_of {l : Launch} {G : GT} {A : Nat → Nat} {H : Heap} {y : MethodName} {ws ws' : List Cond} {rm : Room} {av : List Value} {v : Option Value} {f' : Nat → Nat → Int32} {g' : Nat → Nat} {cc : ByteArray} {maxL : Nat} {ret : Option FieldType}
    (hy : plainName y.cls = true) (hw : ws = Cond.code y cc maxL ret :: ws') (ha : (lg_sl av).length ≤ maxL)
    (body : ∀ (p : Program) (e : Env) (s : State) (m : MethodId) (below : List Frame) (meth : Method) (c : Code) (ls : Array Slot), CallFix p m c cc maxL s av.toArray ws y.cls → meth.sig.returnType = ret → meth.locks = false → lv_has ls maxL (lv_args 0 av) → s.heap = H → GK G H s →
      W p l e rm s m av.toArray below meth c H [] 0 0 (wr_Q below A G H av s v f' g') (F0 m 0 ls [])) : WrV l G A H y ws rm av v f' g' := by
  refine Met.ofW (cc := cc) (maxL := maxL) (ret := ret) hy hw ?_
  intro p e s m args below meth c s₁ B hml hv
  obtain ⟨rfl, hH, hG⟩ := hv
  have hl := lv_entry av (n := maxL) ha
  rw [lg_entry_eq, hH]
  exact body p e s m below meth c _ ⟨B.exec, B.bytes, hml, findClass_of_methodNamed B.named, atoms_spec (ws := ws) B.pre⟩ B.returns B.notSynchronized hl hH hG
/-- one that may throw too, then with new cells alone -/
def WxV (l : Launch) (G : GT) (A : Nat → Nat) (H : Heap) (y : MethodName) (ws : List Cond) (rm : Room) (av : List Value) (ko : Option String) (v : Option Value) (f' : Nat → Nat → Int32) (g' : Nat → Nat) : Prop :=
  vx_Met l y ws rm (va_Pc av (fun U => U.heap = H ∧ GK G H U)) (fun _ _ o t => ko = none ∧ o = .returned v ∧ RP G A f' g' t.heap ∧ chg A H t.heap) (fun E _ t => ko = some E ∧ ext H t.heap) 1 6 (fun q => ∃ k, rD k ∧ q = A k)
abbrev wx_Q (below : List Frame) (A : Nat → Nat) (G : GT) (H : Heap) (av : List Value) (s : State) (ko : Option String) (v : Option Value) (f' : Nat → Nat → Int32) (g' : Nat → Nat) : State → Prop := vx_MQ below (fun _ _ o t => ko = none ∧ o = .returned v ∧ RP G A f' g' t.heap ∧ chg A H t.heap) (fun E _ t => ko = some E ∧ ext H t.heap) av.toArray s 1 6 (fun q => ∃ k, rD k ∧ q = A k)
theorem wx_of {l : Launch} {G : GT} {A : Nat → Nat} {H : Heap} {y : MethodName} {ws ws' : List Cond} {rm : Room} {av : List Value} {ko : Option String} {v : Option Value} {f' : Nat → Nat → Int32} {g' : Nat → Nat} {cc : ByteArray} {maxL : Nat} {ret : Option FieldType}
    (hy : plainName y.cls = true) (hw : ws = Cond.code y cc maxL ret :: ws') (ha : (lg_sl av).length ≤ maxL)
    (body : ∀ (p : Program) (e : Env) (s : State) (m : MethodId) (below : List Frame) (meth : Method) (c : Code) (ls : Array Slot), CallFix p m c cc maxL s av.toArray ws y.cls → meth.sig.returnType = ret → meth.locks = false → (∀ x ∈ c.exceptionTable.toList, False) → lv_has ls maxL (lv_args 0 av) → s.heap = H → GK G H s →
      W p l e rm s m av.toArray below meth c H [] 0 0 (wx_Q below A G H av s ko v f' g') (F0 m 0 ls [])) : WxV l G A H y ws rm av ko v f' g' := by
  refine vx_ofW (cc := cc) (maxL := maxL) (ret := ret) hy hw ?_
  intro p e s m args below meth c s₁ B hml hxt hv
  obtain ⟨rfl, hH, hG⟩ := hv
  have hl := lv_entry av (n := maxL) ha
  rw [lg_entry_eq, hH]
  exact body p e s m below meth c _ ⟨B.exec, B.bytes, hml, findClass_of_methodNamed B.named, atoms_spec (ws := ws) B.pre⟩ B.returns B.notSynchronized hxt hl hH hG
section QW
variable {p : Program} {l : Launch} {e : Env} {R : Room} {s : State} {m : MethodId} {args : Array Value} {below : List Frame} {meth : Method} {c : Code} {H H1 : Heap} {locs : List Loc} {cells slots : Nat} {Q : State → Prop}
variable {Ts ws ws' : List Cond} {cc bytes : ByteArray} {nL maxL index n : Nat} {own C : String} {y : MethodName} {ret : Option FieldType} {rm : Room} {b a pc : Nat} {As rest st0 : List Value} {ls : Array Slot} {G : GT} {v : Option Value} {av : List Value} {ko : Option String} {A : Nat → Nat} {f f' : Nat → Nat → Int32} {g g' : Nat → Nat}
theorem wr_iret {x : Int32} (S : CallFix p m c cc nL s av.toArray Ts own) (hr : meth.sig.returnType = some .int) (hlocks : meth.locks = false) (hdg : decode cc pc = .ok (.ireturn, 1)) (hM : MS G A H f' g' H1 locs) (hv : v = some (.int x)) :
    W p l e R s m av.toArray below meth c H1 locs 0 0 (wr_Q below A G H av s v f' g') (F0 m pc ls [.int x]) :=
  W.iret S.1 S.2.1 hr (fun t ht _ => ⟨by rw [hv], by rw [ht]; exact hM.1, by rw [ht]; exact hM.2.1⟩) hM.2.2 hdg hlocks
theorem wr_vret (S : CallFix p m c cc nL s av.toArray Ts own) (hr : meth.sig.returnType = none) (hlocks : meth.locks = false) (hdg : decode cc pc = .ok (.return_, 1)) (hM : MS G A H f' g' H1 locs) :
    W p l e R s m av.toArray below meth c H1 locs 0 0 (wr_Q below A G H av s none f' g') (F0 m pc ls []) :=
  W.vret S.1 S.2.1 hr (fun t ht _ => ⟨rfl, by rw [ht]; exact hM.1, by rw [ht]; exact hM.2.1⟩) hM.2.2 hdg hlocks
theorem wx_iret {x : Int32} (S : CallFix p m c cc nL s av.toArray Ts own) (hr : meth.sig.returnType = some .int) (hlocks : meth.locks = false) (hdg : decode cc pc = .ok (.ireturn, 1)) (hk : ko = none) (hM : MS G A H f' g' H1 locs) (hv : v = some (.int x)) :
    W p l e R s m av.toArray below meth c H1 locs 0 0 (wx_Q below A G H av s ko v f' g') (F0 m pc ls [.int x]) :=
  W.widen (k := 1) (n := 6) (Nat.le_of_ble_eq_true rfl) (Nat.le_of_ble_eq_true rfl) (vx_ret (W.iret S.1 S.2.1 hr (fun t ht _ => ⟨hk, by rw [hv], by rw [ht]; exact hM.1, by rw [ht]; exact hM.2.1⟩) hM.2.2 hdg hlocks))
theorem wr_iast {n : Nat} {r : Nat → Int32} {i x : Int32} (S : CallFix p m c cc nL s args Ts own) (hG : GV G s) (hat : va_at G.1 vwCl (a, .inl (G.2.1 0, n, .inl r)) H) (hin : vp_in i n) (hdg : decode cc pc = .ok (.iastore, 1))
    (kk : ∀ H1 : Heap, va_at G.1 vwCl (a, .inl (G.2.1 0, n, .inl (upd r i.toNatClampNeg x))) H1 → H1.size = H.size → (∀ q : Nat, q ≠ a → H1[q]? = H[q]?) → W p l e R s m args below meth c H1 (locs ++ [⟨a, i.toNatClampNeg⟩]) cells slots Q (F0 m (pc + 1) ls rest)) : W p l e R s m args below meth c H locs cells slots Q (F0 m pc ls (.int x :: .int i :: .ref a :: rest)) := by
  refine W.iast S.1 S.2.1 hat ((hG.1.2 0 _ rfl).1 n (fun j => .int (r j))) (fun q => by cases q) (by show ¬ (i < 0 ∨ (arrV _ _ _).slots.size ≤ _); rw [arrV_size]; exact hin) rfl rfl hdg fun H1 e z oq => ?_
  refine kk H1 ?_ z oq
  show H1[a]? = some (vp_cell _ _)
  rw [e]
  rw [vp_cell_i, vp_cell_i, arrV_store]
  congr 2
  funext q
  by_cases hq : q = i.toNatClampNeg
  · subst hq
    simp [updV, upd]
  · simp [updV, upd, hq]
theorem wr_putf {T : u_T} {N ci : Nat} {fs : List Value} {ty : FieldType} {x : Value} (S : CallFix p m c cc nL s args Ts own) (hG : GV G s) (hin : ∀ w ∈ u_ws C T N, w ∈ Ts) (ty0 : Nat → FieldType) (hty : ∀ k, k < N → parseFieldDescriptor (T k).2.2.1 = some (ty0 k)) (hnm : ∀ a, a < N → ∀ b, b < N → a ≠ b → (T a).2.1 ≠ (T b).2.1)
    (hat : va_at G.1 vwCl (a, .inr (ci, fs)) H) (k : Nat) (hc : vwCl[ci]? = some (C, T, N)) (hk : k < N) (hlink : (Cond.fieldLink own index (T k).1 (T k).2.1 (T k).2.2.1).before args s = true) (hfin : (T k).2.2.2 = false) (hd : parseFieldDescriptor (T k).2.2.1 = some ty) (hn : narrow ty x = x) (hfit : fits ty x = true) (hl : k < fs.length)
    (hdg : decode cc pc = .ok (.putfield index, 3)) (kk : ∀ (H1 : Heap) (z : Loc), z.base = a → va_at G.1 vwCl (a, .inr (ci, fs.set k x)) H1 → H1.size = H.size → (∀ q : Nat, q ≠ a → H1[q]? = H[q]?) → W p l e R s m args below meth c H1 (locs ++ [z]) cells slots Q (F0 m (pc + 3) ls rest)) : W p l e R s m args below meth c H locs cells slots Q (F0 m pc ls (x :: .ref a :: rest)) := by
  have hap := va_apart (own := own) S.2.2.2.2 hin ty0 hty hnm hG.1 hc
  obtain ⟨r, h1, cell, q1, q2, q3, q4⟩ := hat
  have hr : r = (C, T, N) := Option.some.inj (h1.symm.trans hc)
  subst hr
  obtain ⟨hS, hfc, kC, hkC, hkind⟩ := hG.1.1 ci _ hc
  obtain ⟨cf, kf, fi, fd, hi, hsl⟩ := hS k hk
  have hlay := S.2.2.2.2 _ (hin _ (u_in_lay hk))
  unfold u_lay at hlay
  rw [if_neg (by rw [hfin]; decide)] at hlay
  have hst := (u_facts hfc hkC (u_lays S.2.2.2.2 hin hk) hi).1
  have h6 := u_store hfc hkC hkind hlay hi hd hn hfit
  refine W.putK S.1 S.2.1 (f := fd) ⟨S.2.2.2.1, hlink, ⟨_, _, _, hi⟩, hst⟩ (by rw [q2]; exact h6) q1 q3 (by rw [hsl]; exact k2_hasslot (q4 k hk)) rfl rfl hdg fun H' e1 e2 e3 => ?_
  rw [hsl] at e1 ⊢
  exact kk H' _ rfl ⟨_, hc, t_OB.to (V := updV (vp_V fs) k x) ⟨_, e1, q2, q3, t_set q4 hap hk x⟩ (fun j _ => vp_updV_set hl x j)⟩ e2 e3
/-- a count, or the day, is set -/
theorem wr_cnt {T : u_T} {N ci : Nat} {fs : List Value} {k j d n : Nat} (S : CallFix p m c cc nL s args Ts own) (hG : GK G H1 s) (hA : RA G A) (hM : MS G A H f g H1 locs) (hk : rD k) (hcell : rC G A f g k = .inr (ci, fs)) (hset : rC G A f (gset g d n) k = .inr (ci, fs.set j (.int (nI n)))) (hoth : ∀ i, rD i → i ≠ k → rC G A f (gset g d n) i = rC G A f g i) (hlt : n < 65536)
    (hin : ∀ w ∈ u_ws C T N, w ∈ Ts) (ty0 : Nat → FieldType) (hty : ∀ k, k < N → parseFieldDescriptor (T k).2.2.1 = some (ty0 k)) (hnm : ∀ a, a < N → ∀ b, b < N → a ≠ b → (T a).2.1 ≠ (T b).2.1) (hc : vwCl[ci]? = some (C, T, N)) (hj : j < N) (hlink : (Cond.fieldLink own index (T j).1 (T j).2.1 (T j).2.2.1).before args s = true) (hfin : (T j).2.2.2 = false) (hd : parseFieldDescriptor (T j).2.2.1 = some .int) (hl : j < fs.length)
    (hdg : decode cc pc = .ok (.putfield index, 3)) (kk : ∀ (H2 : Heap) (locs2 : List Loc), MS G A H f (gset g d n) H2 locs2 → GK G H2 s → W p l e R s m args below meth c H2 locs2 cells slots Q (F0 m (pc + 3) ls rest)) : W p l e R s m args below meth c H1 locs cells slots Q (F0 m pc ls (.int (nI n) :: .ref (A k) :: rest)) := by
  have hat := hM.1.2 k hk
  rw [hcell] at hat
  refine wr_putf S hG.1 hin ty0 hty hnm hat j hc hj hlink hfin hd rfl rfl hl hdg fun H2 z hz hn e2 e3 => ?_
  have hM2 : MS G A H f (gset g d n) H2 (locs ++ [z]) := ms_one hA hM hk hz (by rw [hset]; exact hn) e2 e3 hoth (gset_lt hM.1.1 hlt)
  exact kk H2 _ hM2 (chg.gk hA ⟨Nat.le_of_eq e2.symm, fun q _ h => e3 q (h k hk)⟩ hG)
theorem wr_run (a : Array Value) (hA : RA G A) (hG : GK G H1 s) (hM : MS G A H f g H1 locs) (hr : va_Run p l e R s m args below meth c H1 locs cells slots 0 0 (F0 m pc ls st0) rest ((fun (_ : Array Value) (_ : State) (o : Outcome) (t : State) => o = .returned v ∧ RP G A f' g' t.heap ∧ chg A H1 t.heap) a) (fun q => ∃ k, rD k ∧ q = A k))
    (kk : ∀ (H2 : Heap) (locs2 : List Loc), MS G A H f' g' H2 locs2 → GK G H2 s → W p l e R s m args below meth c H2 locs2 cells slots Q (F0 m (pc + 3) ls (v.toList ++ rest))) : W p l e R s m args below meth c H1 locs cells slots Q (F0 m pc ls st0) := by
  intro T hT X
  obtain ⟨v', st₀, t, T', L, h0, X', hL, e1, -, ⟨hv, hR, hch⟩, st⟩ := hr T hT X
  cases hv
  obtain ⟨t2, a1, b1⟩ := kk T'.heap (locs ++ L) ⟨by rw [e1]; exact hR, by rw [e1]; exact hM.2.1.tr hch, fun q hq => (List.mem_append.mp hq).elim (hM.2.2 q) (hL q)⟩ (by rw [e1]; exact chg.gk hA hch hG) T' rfl X'
  exact ⟨t2, st t2 a1, b1⟩
theorem wr_V (S : CallFix p m c cc nL s args Ts own) (hA : RA G A) (hG : GK G H1 s) (hM : MS G A H f g H1 locs) (hH : WrV l G A H1 y ws rm (.ref b :: As) v f' g') (hT : GoodIn Ts (wsV own index C y ws)) (hw : ws = Cond.code y bytes maxL ret :: ws') (h0 : rm.cells = 0 ∧ rm.slots = 0) (hd : nmV y C n) (hR : rm.frames + 1 ≤ R.frames ∧ 8 + (maxL + 11) + rm.locals ≤ R.locals)
    (hcell : ∃ cell : Cell, H1[b]? = some cell ∧ cell.vm.isStatics = false ∧ s.vm.findClass C = some cell.cls) (hn : As.length = n) (hsz : ls.size = nL) (hst : st0 = As.reverse ++ .ref b :: rest) (hW : (rest.map fun v => v.category).sum ≤ 8) (hf : cells ≤ R.cells ∧ slots ≤ R.slots) (hdg : decode cc pc = .ok (.invokevirtual index, 3))
    (kk : ∀ (H2 : Heap) (locs2 : List Loc), MS G A H f' g' H2 locs2 → GK G H2 s → W p l e R s m args below meth c H2 locs2 cells slots Q (F0 m (pc + 3) ls (v.toList ++ rest))) : W p l e R s m args below meth c H1 locs cells slots Q (F0 m pc ls st0) :=
  wr_run (Value.ref b :: As).toArray hA hG hM (va_runV S hH (cwV n S.2.2.2.2 hT hw h0.1 h0.2 hd hR) ⟨rd_blind, hcell, fun U hU hWW => ⟨rfl, hU, GK.warm hWW hG⟩⟩ rfl hn hsz hst (lv_room hW) hdg hf) kk
end QW
/-- Row.put on the room's row k -/
theorem c_X6_put (l : Launch) (G : GT) (A : Nat → Nat) (f : Nat → Nat → Int32) (g : Nat → Nat) (H : Heap) (hR : RP G A f g H) (hA : RA G A) (k : Nat) (hk : 10 ≤ k ∧ k < 30) (i v : Int32) : WrV l G A H yX6_put wsX6_put { frames := 0, cells := 0, slots := 0, locals := 0 } [.ref (A k), .int i, .int v] none (rowPut f k i v) g := by
  have h1 := hR.2 k (Or.inr ⟨hk.1, by omega⟩)
  have h2 := hR.2 (k + 20) (Or.inr ⟨by omega, by omega⟩)
  rw [rC_row hk] at h1
  rw [rC_arr hk] at h2
  refine wr_of (cc := cX6_put) (maxL := 3) (ret := none) (by decide) rfl (Nat.le_of_ble_eq_true rfl) ?_
  intro pZ eZ sZ mZ bZ meZ cZ ls S hr hlk hl hHs hG
  have S : CallFix pZ mZ cZ cX6_put 3 sZ _ wsX6_put RX6 := S
  have hx := S.1
  have hb := S.2.1
  have hl : lv_has ls 3 [(0, .ref (A k)), (1, .int i), (2, .int v)] := hl
  have w0 := S.2.2.2.2 (.fieldLink RX6 9 "MinimaRoom$Row" "cells" "[I") (by decide +kernel)
  have iX6 : ∀ w ∈ u_ws RX6 TX6 1, w ∈ wsX6_put := by decide +kernel
  refine lv_iload_n hx hb dX6_put_0 rfl (lv_at hl 1 rfl) ?_
  refine lv_if_lt (tgt := 20) hx hb dX6_put_1 (by decide) (fun c1 => ?_) (fun c1 => ?_)
  · refine wr_vret S hr hlk dX6_put_20 (f' := rowPut f k i v) ?_
    have e : rowPut f k i v = f := by
      funext j; unfold rowPut; rw [if_pos c1]; simp
    rw [e]; exact MS.rf hR
  · refine lv_iload_n hx hb dX6_put_4 rfl (lv_at hl 1 rfl) ?_
    refine lv_aload_n hx hb dX6_put_5 rfl (lv_at hl 0 rfl) ?_
    refine rd_get (own := RX6) (x := .ref (A (k + 20))) S hG.1 iX6 h1 0 rfl (by decide) w0 rfl dX6_put_6 ?_
    refine rd_alen S hG.1 h2 dX6_put_9 ?_
    refine lv_icmp_ge (tgt := 20) hx hb dX6_put_10 (by decide) (fun c2 => ?_) (fun c2 => ?_)
    · refine wr_vret S hr hlk dX6_put_20 (f' := rowPut f k i v) ?_
      have e : rowPut f k i v = f := by
        funext j; unfold rowPut; rw [if_neg c1, if_pos c2]; simp
      rw [e]; exact MS.rf hR
    · refine lv_aload_n hx hb dX6_put_13 rfl (lv_at hl 0 rfl) ?_
      refine rd_get (own := RX6) (x := .ref (A (k + 20))) S hG.1 iX6 h1 0 rfl (by decide) w0 rfl dX6_put_14 ?_
      refine lv_iload_n hx hb dX6_put_17 rfl (lv_at hl 1 rfl) ?_
      refine lv_iload_n hx hb dX6_put_18 rfl (lv_at hl 2 rfl) ?_
      refine wr_iast S hG.1 h2 (vp_of c1 c2 (rl_lt k)) dX6_put_19 (fun H1 hn e2 e3 => ?_)
      refine wr_vret S hr hlk dX6_put_20 (f' := rowPut f k i v) ?_
      have e : rowPut f k i v k = upd (f k) i.toNatClampNeg v := by
        unfold rowPut; rw [if_pos rfl, if_neg c1, if_neg c2]
      refine ms_one hA (MS.rf hR) (k := k + 20) (Or.inr ⟨by omega, by omega⟩) rfl ?_ e2 e3 (fun j _ hj => rC_fo hk (fun q hq => by unfold rowPut; rw [if_neg hq]) hj) hR.1
      rw [rC_arr hk, e]
      exact hn
