/-! the wrapper of the mean -/
abbrev wd_P (G : GT) (A : Nat → Nat) (o : Nat) (H : Heap) (L : List String) (ko : Option String) (x : UInt64) (f : Nat → Nat → Int32) (g : Nat → Nat) (oc : Outcome) (t : State) : Prop := oc = .returned (some (.int (ecd L ko))) ∧ chgo A o H t.heap ∧ RP G A f g t.heap ∧ (ko = none → ∃ r : Nat → UInt64, r 0 = x ∧ va_at G.1 vwCl (o, oD G r) t.heap) ∧ (ko ≠ none → ∃ r : Nat → UInt64, va_at G.1 vwCl (o, oD G r) t.heap)
abbrev wl_D (A : Nat → Nat) (o : Nat) : Nat → Prop := fun q => (∃ k, rD k ∧ q = A k) ∨ q = o
def WLD (l : Launch) (G : GT) (A : Nat → Nat) (o : Nat) (H : Heap) (y : MethodName) (ws : List Cond) (rm : Room) (av : List Value) (L : List String) (ko : Option String) (x : UInt64) (f : Nat → Nat → Int32) (g : Nat → Nat) : Prop :=
  Met l y ws rm (va_Pc av (fun U => U.heap = H ∧ GK G H U ∧ GN U)) (fun _ _ oc t => wd_P G A o H L ko x f g oc t) 1 6 (wl_D A o)
abbrev wd_Q (below : List Frame) (G : GT) (A : Nat → Nat) (o : Nat) (H : Heap) (av : List Value) (s : State) (L : List String) (ko : Option String) (x : UInt64) (f : Nat → Nat → Int32) (g : Nat → Nat) : State → Prop := MQ below (fun _ _ oc t => wd_P G A o H L ko x f g oc t) av.toArray s 1 6 (wl_D A o)
theorem wd_of {l : Launch} {G : GT} {A : Nat → Nat} {o : Nat} {H : Heap} {y : MethodName} {ws ws' : List Cond} {rm : Room} {av : List Value} {L : List String} {ko : Option String} {x : UInt64} {f : Nat → Nat → Int32} {g : Nat → Nat} {cc : ByteArray} {maxL : Nat} {ret : Option FieldType} {hh : List (Nat × Nat × Nat × Nat)}
    (hy : plainName y.cls = true) (hw : ws = Cond.codeWith y cc maxL ret hh :: ws') (ha : (lg_sl av).length ≤ maxL)
    (body : ∀ (p : Program) (e : Env) (s : State) (m : MethodId) (below : List Frame) (meth : Method) (c : Code) (ls : Array Slot), CallFix p m c cc maxL s av.toArray ws y.cls → meth.sig.returnType = ret → meth.locks = false → c.exceptionTable.toList = tableOf hh → lv_has ls maxL (lv_args 0 av) → s.heap = H → GK G H s → GN s →
      W p l e rm s m av.toArray below meth c H [] 0 0 (wd_Q below G A o H av s L ko x f g) (F0 m 0 ls [])) : WLD l G A o H y ws rm av L ko x f g := by
  refine wl_ofH (cc := cc) (maxL := maxL) (ret := ret) (hh := hh) hy hw ?_
  intro p e s m args below meth c s₁ B hml ht hv
  obtain ⟨rfl, hH, hG, hN⟩ := hv
  have hl := lv_entry av (n := maxL) ha
  rw [lg_entry_eq, hH]
  exact body p e s m below meth c _ ⟨B.exec, B.bytes, hml, findClass_of_methodNamed B.named, atoms_spec (ws := ws) B.pre⟩ B.returns B.notSynchronized ht hl hH hG hN
theorem nmL_meanDemanded : nmV yL_meanDemanded RL 3 := by decide +kernel
set_option maxHeartbeats 1000000 in
set_option maxRecDepth 100000 in
theorem c_L_meanDemanded (l : Launch) (G : GT) (hlf : l.stackTraces = false) (A : Nat → Nat) (f : Nat → Nat → Int32) (g : Nat → Nat) (H : Heap) (hR : RP G A f g H) (hA : RA G A) (o : Nat) (r : Nat → UInt64) (ho : va_at G.1 vwCl (o, oD G r) H) (hoA : ∀ k, rD k → o ≠ A k) (d : Int32) : WLD l G A o H yL_meanDemanded wsL_meanDemanded { frames := 9, cells := 1, slots := 6, locals := 147 } [.ref (A 0), .int d, .ref o] [xIAE] (koArg d 0 399) (mnD f g d) f g := by
  refine wd_of (cc := cL_meanDemanded) (maxL := 4) (ret := some .int) (hh := [(0, 8, 11, 13)]) (by decide) rfl (Nat.le_of_ble_eq_true rfl) ?_
  intro pZ eZ sZ mZ bZ meZ cZ ls S hr hlk hxt hl hHs hG hN
  have S : CallFix pZ mZ cZ cL_meanDemanded 4 sZ _ wsL_meanDemanded RL := S
  have hx := S.1
  have hb := S.2.1
  have hown := S.2.2.2.1
  have hts := S.2.2.2.2
  have hl : lv_has ls 4 [(0, .ref (A 0)), (1, .int d), (2, .ref o)] := hl
  refine lv_aload_n hx hb dL_meanDemanded_0 rfl (lv_at hl 2 rfl) ?_
  refine lv_iconst (v := 0) hx hb dL_meanDemanded_1 (by decide) ?_
  refine lv_aload_n hx hb dL_meanDemanded_2 rfl (lv_at hl 0 rfl) ?_
  refine lv_iload_n hx hb dL_meanDemanded_3 rfl (lv_at hl 1 rfl) ?_
  refine wl_V (As := [.int d]) (rest := [.int 0, .ref o]) S hG hA (wx_of_rx (c_X7_meanDemanded l G hlf A f g H hR d) hR) gL_meanDemanded_X7_meanDemanded rfl ⟨rfl, rfl⟩ nmX7_meanDemanded ⟨Nat.le_of_ble_eq_true rfl, Nat.le_of_ble_eq_true rfl⟩ (rd_rcv hG.1 (rP_0 hR) rfl) rfl hl.1 rfl (Nat.le_of_ble_eq_true rfl) ⟨Nat.le_of_ble_eq_true rfl, Nat.le_of_ble_eq_true rfl⟩ dL_meanDemanded_4 (fun hk H2 locs2 hR2 hch hA0 hG2 => ?_) (fun E H2 locs2 q ce hk hext hA0 hG2 hce hcv hcl => ?_)
  · refine W.eq (g2 := F0 mZ 7 ls [.double (mnD f g d), .int 0, .ref o]) rfl ?_
    refine wl_dast S hG2.1 (va_at.kept ho (hch.2 _ (va_at.lt ho) (fun k hk9 => hoA k hk9))) dL_meanDemanded_7 (fun H3 z hz hn3 hzs hq => ?_)
    refine lv_goto (tgt := 14) hx hb dL_meanDemanded_8 (by decide) ?_
    refine lv_iconst (v := 0) hx hb dL_meanDemanded_14 (by decide) ?_
    refine W.iret hx hb hr (fun t ht _ => ⟨by rw [hk]; rfl, ?_, ?_, fun _ => ⟨vf_upd r 0 (mnD f g d), if_pos rfl, ?_⟩, fun z => absurd hk z⟩) (fun q hq => (List.mem_append.mp hq).elim (fun h => Or.inl (hA0 q h)) fun h => Or.inr (by rw [List.mem_singleton.mp h]; exact hz)) dL_meanDemanded_15 hlk
    · rw [ht]; exact ⟨by rw [hzs]; exact hch.1, fun q hq2 h1 h2 => (hq q h2).trans (hch.2 q hq2 h1)⟩
    · rw [ht]; exact ⟨hR2.1, fun k hk9 => (hR2.2 k hk9).kept (hq _ (Ne.symm (hoA k hk9)))⟩
    · rw [ht]; exact hn3
  · have hE := (show KO [xIAE] _ from (KO_Arg (by decide +kernel))) E hk
    rw [List.mem_singleton] at hE; subst hE
    refine vx_catch (own := RL) (name := xIAE) hown [] (⟨0, 8, 11, 13⟩ : ExceptionTableEntry) [] (by rw [hxt]; rfl) (fun _ h => nomatch h) (by decide) (by decide) (hts (.classLink RL 13 xIAE) (by decide +kernel)) (va_Nw.use rfl (hG2.1.2.1 (.castable xIAE xIAE) (by decide +kernel) rfl)) hce hcv hcl ?_
    refine W.eq (g2 := F0 mZ 11 ls [.ref q]) rfl ?_
    refine lv_astore_n (lv' := [(3, .ref q), (0, .ref (A 0)), (1, .int d), (2, .ref o)]) hx hb dL_meanDemanded_11 rfl hl (by decide) rfl (fun ls hl => ?_)
    refine lv_iconst (v := 1) hx hb dL_meanDemanded_12 (by decide) ?_
    refine W.iret hx hb hr (fun t ht _ => ⟨by rw [hk]; exact congrArg (fun z => Outcome.returned (some (Value.int z))) eA_A.symm, ?_, ?_, fun z => (by rw [hk] at z; cases z), fun _ => ⟨r, ?_⟩⟩) (fun q hq => Or.inl (hA0 q hq)) dL_meanDemanded_13 hlk
    · rw [ht]; exact ⟨hext.1, fun q hq _ _ => hext.2 q hq⟩
    · rw [ht]; exact ⟨hR.1, fun k hk9 => (hR.2 k hk9).kept (hext.2 _ (rp_lt hR k hk9))⟩
    · rw [ht]; exact va_at.kept ho (hext.2 _ (va_at.lt ho))
