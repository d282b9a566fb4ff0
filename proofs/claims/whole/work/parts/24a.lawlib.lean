/-! the law: what holds at its loop's head, and rows for its calls -/
theorem lcmp_self (x : Int64) : lg_cmp x x = 0 := by
  unfold lg_cmp
  simp
def qlD (z : Nat) : Nat → Prop := fun q => z + 47 ≤ q ∧ q ≠ z + 55 ∧ q ≠ z + 56
theorem A0_lt {z k : Nat} (h : rD k) : A0 z k < z + 47 := by
  have h1 := ao_lt k (by rcases h with h | h <;> omega)
  unfold A0
  omega
theorem A0_ge {z k : Nat} : z ≤ A0 z k := Nat.le_add_right _ _
section QLW
variable (G : GT) (s : State)
/-- the array for doubles, the sizes, what has changed since the start -/
def qLR (H : Heap) (locs : List Loc) : Prop := (∃ r : Nat → UInt64, va_at G.1 vwCl (s.heap.size + 56, oD G r) H) ∧ s.heap.size + 57 ≤ H.size ∧ va_S (fun q => s.heap.size ≤ q) s.heap H locs
def qLO (H : Heap) : Prop := ∃ r : Nat → Int64, va_at G.1 vwCl (s.heap.size + 55, oL G r) H
def qLOx (x : Int32) (H : Heap) : Prop := ∃ r : Nat → Int64, r 0 = x.toInt64 ∧ va_at G.1 vwCl (s.heap.size + 55, oL G r) H
abbrev qLM (th : Int32) (f : Nat → Nat → Int32) (g : Nat → Nat) (H : Heap) : Prop := MX G (qlD s.heap.size) (s.heap.size + 47) th f g H
abbrev qLRP (f : Nat → Nat → Int32) (g : Nat → Nat) (H : Heap) : Prop := RP G (A0 s.heap.size) f g H
/-- the loop's head -/
def qLW (th : Int32) (f : Nat → Nat → Int32) (g : Nat → Nat) (H : Heap) (locs : List Loc) : Prop := qLRP G s f g H ∧ LI f g ∧ qLM G s th f g H ∧ qLO G s H ∧ qLR G s H locs
/-- behind the class's call -/
def qLA (ko : Option String) (x th : Int32) (f : Nat → Nat → Int32) (g : Nat → Nat) (f' : Nat → Nat → Int32) (g' : Nat → Nat) (H : Heap) (locs : List Loc) : Prop := (ko = none → qLRP G s f' g' H ∧ qLOx G s x H) ∧ (ko ≠ none → qLRP G s f g H ∧ qLO G s H) ∧ qLM G s th f g H ∧ qLR G s H locs
/-- behind the reference's -/
def qLB (ko : Option String) (x k va : Int32) (f : Nat → Nat → Int32) (g : Nat → Nat) (f' : Nat → Nat → Int32) (g' : Nat → Nat) (H : Heap) (locs : List Loc) : Prop := (ko = none → (qLRP G s f' g' H ∧ qLOx G s x H) ∧ va = x ∧ qLM G s k f' g' H) ∧ (ko ≠ none → (qLRP G s f g H ∧ qLO G s H) ∧ qLM G s k f g H) ∧ qLR G s H locs
end QLW
section QLK
variable {G : GT} {s : State} {H H1 : Heap} {locs : List Loc} {f f' : Nat → Nat → Int32} {g g' : Nat → Nat} {th x k va : Int32} {ko : Option String}
theorem lr_gk (hz : G.2.2.1 = s.heap.size) (hG : GK G s.heap s) (h : qLR G s H locs) : GK G H s := hG.heap fun a ha hn => h.2.2.2.1 a ha (by rw [← hz]; exact hn)
theorem lm_dp (hz : G.2.2.1 = s.heap.size) (h : qLR G s H locs) : DP G (qlD s.heap.size) H.size := by
  have h1 := h.2.1
  refine ⟨fun q hq => ⟨by omega, by omega, by omega⟩, fun q hq => ?_⟩
  rw [hz]
  have := hq.1
  omega
/-- what keeps when only cells of the reference and new ones change -/
theorem lrp_M (h : qLRP G s f g H) (hS : va_S (qlD s.heap.size) H H1 []) : qLRP G s f g H1 :=
  ⟨h.1, fun j hj => (h.2 j hj).kept (hS.2.1 _ (h.2 j hj).lt (fun z => by have := A0_lt (z := s.heap.size) hj; have := z.1; omega))⟩
theorem lo_M (h : qLO G s H) (hS : va_S (qlD s.heap.size) H H1 []) : qLO G s H1 := by
  obtain ⟨r, hr⟩ := h
  exact ⟨r, hr.kept (hS.2.1 _ hr.lt (fun z => z.2.1 rfl))⟩
theorem lox_M (h : qLOx G s x H) (hS : va_S (qlD s.heap.size) H H1 []) : qLOx G s x H1 := by
  obtain ⟨r, h0, hr⟩ := h
  exact ⟨r, h0, hr.kept (hS.2.1 _ hr.lt (fun z => z.2.1 rfl))⟩
theorem lr_M {locs2 : List Loc} (h : qLR G s H locs) (hS : va_S (qlD s.heap.size) H H1 []) (hS2 : va_S (fun q => s.heap.size ≤ q) s.heap H1 locs2) : qLR G s H1 locs2 := by
  obtain ⟨⟨r, hr⟩, h1, h2⟩ := h
  exact ⟨⟨r, hr.kept (hS.2.1 _ hr.lt (fun z => z.2.2 rfl))⟩, Nat.le_trans h1 hS.1, hS2⟩
/-- and when only the room's cells, the array for answers and new ones do -/
theorem lm_W (h : qLM G s th f g H) (hq : chgo (A0 s.heap.size) (s.heap.size + 55) H H1) : qLM G s th f g H1 := by
  obtain ⟨B, mc, cp, h1, h2, h3, h4⟩ := h
  refine ⟨B, mc, cp, mp_kept h1 (fun j hj => ?_), h2, h3, h4⟩
  have hd := h2.1 j hj
  exact hq.2 _ (mp_lt h1 hj) (fun i hi e => by have := A0_lt (z := s.heap.size) hi; have := hd.1; omega) hd.2.1
theorem lr_W {o9 : Nat} {L9 : List Loc} (h : qLR G s H locs) (ho : o9 = s.heap.size + 55) (hq : chgo (A0 s.heap.size) o9 H H1) (hL : ∀ q ∈ L9, wl_D (A0 s.heap.size) o9 q.base) : qLR G s H1 (locs ++ L9) := by
  subst ho
  obtain ⟨⟨r, hr⟩, h1, h2⟩ := h
  refine ⟨⟨r, hr.kept (hq.2 _ hr.lt (fun i hi e => ?_) (by omega))⟩, Nat.le_trans h1 hq.1, Nat.le_trans h2.1 hq.1, fun q h3 h4 => (hq.2 q (Nat.lt_of_lt_of_le h3 h2.1) (fun i hi e => h4 (by rw [e]; exact A0_ge)) (fun e => h4 (by rw [e]; exact Nat.le_add_right _ _))).trans (h2.2.1 q h3 h4), fun q hq9 => ?_⟩
  · have := A0_lt (z := s.heap.size) hi
    omega
  · rcases List.mem_append.mp hq9 with h5 | h5
    · exact h2.2.2 q h5
    · rcases hL q h5 with ⟨i, hi, e⟩ | e
      · show s.heap.size ≤ q.base
        rw [e]; exact A0_ge
      · show s.heap.size ≤ q.base
        rw [e]; exact Nat.le_add_right _ _
end QLK
section QLC
variable {p : Program} {l : Launch} {e : Env} {R : Room} {s : State} {m : MethodId} {args : Array Value} {below : List Frame} {meth : Method} {c : Code} {H H1 : Heap} {locs : List Loc} {cells slots : Nat} {Q : State → Prop}
variable {ws ws' : List Cond} {bytes : ByteArray} {maxL index n : Nat} {C : String} {y : MethodName} {ret : Option FieldType} {rm : Room} {pc nc ns : Nat} {As rest st0 : List Value} {ls : Array Slot} {G : GT} {f f' : Nat → Nat → Int32} {g g' : Nat → Nat} {ko : Option String} {L : List String} {x th k : Int32} {hh : List (Nat × Nat × Nat × Nat)}
theorem law_W (S : CallFix p m c cL_law 9 s args wsL_law RL) (hz : G.2.2.1 = s.heap.size) (hG : GK G s.heap s) (hN : GN s) (hI : qLW G s th f g H locs) (hM : ∀ r, va_at G.1 vwCl (s.heap.size + 55, oL G r) H → WLV l G (A0 s.heap.size) (s.heap.size + 55) H y ws rm As L ko x f g f' g') (hT : GoodIn wsL_law (va_wsS RL index y ws)) (hw : ws = Cond.codeWith y bytes maxL (some .int) hh :: ws') (h0 : rm.cells = 1 ∧ rm.slots = 6) (hd : nmV y RL n) (hR : rm.frames + 1 ≤ R.frames ∧ 8 + (maxL + 11) + rm.locals ≤ R.locals)
    (hn : As.length = n) (hsz : ls.size = 9) (hst : st0 = As.reverse ++ rest) (hW : (rest.map fun v => v.category).sum ≤ 8) (hf : cells + 1 ≤ R.cells ∧ slots + 6 ≤ R.slots) (hdg : decode cL_law pc = .ok (.invokestatic index, 3))
    (kk : ∀ (H2 : Heap) (locs2 : List Loc), qLA G s ko x th f g f' g' H2 locs2 → W p l e R s m args below meth c H2 locs2 (cells + 1) (slots + 6) Q (F0 m (pc + 3) ls (.int (ecd L ko) :: rest))) : W p l e R s m args below meth c H locs cells slots Q (F0 m pc ls st0) := by
  obtain ⟨i1, i2, i3, ⟨r, i4⟩, i5⟩ := hI
  have hGH := lr_gk hz hG i5
  intro T hT9 X
  obtain ⟨v', st₀, t, T', L9, h09, X', hL, e1, -, ⟨q1, q2, q3, q4⟩, st⟩ := vx_runSW S (hM r i4) (vx_cwSW n S.2.2.2.2 hT hw h0.1 h0.2 hd.2 hR) ⟨wl_blind, fun U hU hWW => ⟨rfl, hU, GK.warm hWW hGH, GN.warm hWW hN⟩⟩ rfl hn hsz hst (lv_room hW) hdg hf T hT9 X
  have hv2 : v' = some (.int (ecd L ko)) := by injection q1
  subst hv2
  rw [← e1] at q2 q3 q4
  obtain ⟨t2, a1, b1⟩ := kk T'.heap (locs ++ L9) ⟨q3, q4, lm_W i3 q2, lr_W i5 rfl q2 hL⟩ T' rfl X'
  exact ⟨t2, st t2 a1, b1⟩
theorem law_M (S : CallFix p m c cL_law 9 s args wsL_law RL) (hz : G.2.2.1 = s.heap.size) (hG : GK G s.heap s) (hX : GX s) (hA : qLA G s ko x th f g f' g' H locs) (hM : ∀ (B : Nat → Nat) (mc : Nat → Int32) (cp : Nat → Nat), MP G B th mc cp f g H → DP G (qlD s.heap.size) H.size → DB (qlD s.heap.size) B cp g → CG cp → MwV l G (qlD s.heap.size) H y ws rm (.ref (B 0) :: As) nc ns (qLP G (qlD s.heap.size) (B 0) ko k x f g f' g')) (hT : GoodIn wsL_law (wsV RL index RX11 y ws)) (hw : ws = Cond.code y bytes maxL ret :: ws') (h0 : rm.cells = nc ∧ rm.slots = ns) (hd : nmV y RX11 n) (hR : rm.frames + 1 ≤ R.frames ∧ 8 + (maxL + 11) + rm.locals ≤ R.locals)
    (hn : As.length = n) (hsz : ls.size = 9) (hst : st0 = As.reverse ++ .ref (s.heap.size + 47) :: rest) (hW : (rest.map fun v => v.category).sum ≤ 8) (hf : cells + nc ≤ R.cells ∧ slots + ns ≤ R.slots) (hdg : decode cL_law pc = .ok (.invokevirtual index, 3))
    (kk : ∀ (H2 : Heap) (locs2 : List Loc) (va : Int32), qLB G s ko x k va f g f' g' H2 locs2 → W p l e R s m args below meth c H2 locs2 (cells + nc) (slots + ns) Q (F0 m (pc + 3) ls (.int va :: rest))) : W p l e R s m args below meth c H locs cells slots Q (F0 m pc ls st0) := by
  obtain ⟨i1, i2, ⟨B, mc, cp, m1, m2, m3, m4⟩, i5⟩ := hA
  have hGH := lr_gk hz hG i5
  have hc := hM B mc cp m1 (lm_dp hz i5) m2 m3
  have h0r := mP_0 m1
  rw [m4] at hc h0r
  refine mw_V (D := fun q => s.heap.size ≤ q) (H := s.heap) S ⟨fun q hq => hq, fun q hq => by rw [hz]; exact hq⟩ hX hGH i5.2.2 hc (fun q hq => Nat.le_trans (Nat.le_add_right _ _) hq.1) hT hw h0 hd hR (rd_rcv hGH.1 h0r rfl) hn hsz hst hW hf hdg (fun H2 locs2 v hS2 hs2 hP hG2 => ?_)
  obtain ⟨va, hv, p1, p2⟩ := hP
  subst hv
  exact kk H2 locs2 va ⟨fun h => ⟨⟨lrp_M (i1 h).1 hs2, lox_M (i1 h).2 hs2⟩, p1 h⟩, fun h => ⟨⟨lrp_M (i2 h).1 hs2, lo_M (i2 h).2 hs2⟩, p2 h⟩, lr_M i5 hs2 hS2⟩
theorem law_th (S : CallFix p m c cL_law 9 s args wsL_law RL) (hz : G.2.2.1 = s.heap.size) (hG : GK G s.heap s) (hr : qLR G s H locs) (hM : qLM G s k f g H) (hR : 1 ≤ R.frames ∧ 20 ≤ R.locals) (hf : cells ≤ R.cells ∧ slots ≤ R.slots) (hsz : ls.size = 9) (hdg : decode cL_law pc = .ok (.invokevirtual 112, 3))
    (kk : W p l e R s m args below meth c H locs cells slots Q (F0 m (pc + 3) ls [.int k])) : W p l e R s m args below meth c H locs cells slots Q (F0 m pc ls [.ref (s.heap.size + 47)]) := by
  have hGH := lr_gk hz hG hr
  obtain ⟨B, mc, cp, m1, m2, m3, m4⟩ := hM
  have hc := c_X11_thrown l G B k mc cp f g H m1
  have h0r := mP_0 m1
  rw [m4] at hc h0r
  exact rd_V (As := []) (rest := []) (v := some (.int k)) S hGH hc gL_law_X11_thrown rfl ⟨rfl, rfl⟩ nmX11_thrown ⟨hR.1, hR.2⟩ (rd_rcv hGH.1 h0r rfl) rfl hsz rfl (Nat.le_of_ble_eq_true rfl) hf hdg kk
theorem law_lald {r : Nat → Int64} (S : CallFix p m c cL_law 9 s args wsL_law RL) (hG : GV G s) (ho : va_at G.1 vwCl (s.heap.size + 55, oL G r) H) (hdg : decode cL_law pc = .ok (.laload, 1)) (kk : W p l e R s m args below meth c H locs cells slots Q (F0 m (pc + 1) ls (.long (r 0) :: rest))) : W p l e R s m args below meth c H locs cells slots Q (F0 m pc ls (.int 0 :: .ref (s.heap.size + 55) :: rest)) :=
  va_lald S.1 S.2.1 hG.1 (q_P1 ho) 0 3 rfl rfl (vp_in_nI (n := 0) (N := 1) (by decide) (by decide)) hdg kk
theorem law_dald {r : Nat → UInt64} (S : CallFix p m c cL_law 9 s args wsL_law RL) (hG : GV G s) (ho : va_at G.1 vwCl (s.heap.size + 56, oD G r) H) (hdg : decode cL_law pc = .ok (.daload, 1)) (kk : W p l e R s m args below meth c H locs cells slots Q (F0 m (pc + 1) ls (.double (r 0) :: rest))) : W p l e R s m args below meth c H locs cells slots Q (F0 m pc ls (.int 0 :: .ref (s.heap.size + 56) :: rest)) :=
  va_dald S.1 S.2.1 hG.1 (q_P1 ho) 0 4 rfl rfl (vp_in_nI (n := 0) (N := 1) (by decide) (by decide)) hdg kk
theorem law_tail {t b i : Nat} {off : Int} {va : Int32} (S : CallFix p m c cL_law 9 s args wsL_law RL) (hz : G.2.2.1 = s.heap.size) (hG : GK G s.heap s) (hB : qLB G s ko x (ecd L ko) va f g f' g' H locs) (hL : L.length < 1000) (hLI : LI f g) (hLI2 : ko = none → LI f' g') (hR : 1 ≤ R.frames ∧ 20 ≤ R.locals) (hf : cells ≤ R.cells ∧ slots ≤ R.slots)
    (hl : lv_has ls 9 [(7, .int va), (6, .int (ecd L ko)), (5, .int (nI i)), (0, .ref b), (1, .ref s.heap.size), (2, .ref (s.heap.size + 47)), (3, .ref (s.heap.size + 55)), (4, .ref (s.heap.size + 56))])
    (d0 : decode cL_law t = .ok (.aload_n 2, 1)) (d1 : decode cL_law (t + 1) = .ok (.invokevirtual 112, 3)) (d4 : decode cL_law (t + 4) = .ok (.iload 6, 2)) (d6 : decode cL_law (t + 6) = .ok (.if_icmp .eq 5, 3)) (d11 : decode cL_law (t + 11) = .ok (.iload 6, 2)) (d13 : decode cL_law (t + 13) = .ok (.ifCond .ne 15, 3)) (d16 : decode cL_law (t + 16) = .ok (.aload_n 3, 1)) (d17 : decode cL_law (t + 17) = .ok (.iconst 0, 1)) (d18 : decode cL_law (t + 18) = .ok (.laload, 1)) (d19 : decode cL_law (t + 19) = .ok (.iload 7, 2)) (d21 : decode cL_law (t + 21) = .ok (.i2l, 1)) (d22 : decode cL_law (t + 22) = .ok (.lcmp, 1)) (d23 : decode cL_law (t + 23) = .ok (.ifCond .eq 5, 3)) (d28 : decode cL_law (t + 28) = .ok (.goto off, 3)) (ht : ((t + 28 : Nat) : Int) + off = ((2103 : Nat) : Int))
    (kk : ∀ (f2 : Nat → Nat → Int32) (g2 : Nat → Nat) (ls2 : Array Slot), qLW G s (ecd L ko) f2 g2 H locs → lv_has ls2 9 [(5, .int (nI i)), (0, .ref b), (1, .ref s.heap.size), (2, .ref (s.heap.size + 47)), (3, .ref (s.heap.size + 55)), (4, .ref (s.heap.size + 56))] → W p l e R s m args below meth c H locs cells slots Q (F0 m 2103 ls2 [])) : W p l e R s m args below meth c H locs cells slots Q (F0 m t ls []) := by
  have hx := S.1
  have hb := S.2.1
  obtain ⟨b1, b2, b3⟩ := hB
  have hl9 := lv_sub (l' := [(5, .int (nI i)), (0, .ref b), (1, .ref s.heap.size), (2, .ref (s.heap.size + 47)), (3, .ref (s.heap.size + 55)), (4, .ref (s.heap.size + 56))]) hl [2, 3, 4, 5, 6, 7] rfl
  have hGH := lr_gk hz hG b3
  refine lv_aload_n hx hb d0 rfl (lv_at hl 5 rfl) ?_
  by_cases hk : ko = none
  · obtain ⟨⟨k1, r, k2, k3⟩, k4, k5⟩ := b1 hk
    refine law_th S hz hG b3 k5 hR hf hl.1 d1 ?_
    refine lv_iload hx hb d4 (lv_at hl 1 rfl) ?_
    refine lv_icmp_eq (tgt := t + 11) hx hb d6 (by omega) (fun _ => ?_) (fun c => absurd rfl c)
    refine lv_iload hx hb d11 (lv_at hl 1 rfl) ?_
    refine lv_if_ne (tgt := t + 28) hx hb d13 (by omega) (fun c => absurd ((ecd_z hL).mpr hk) c) (fun _ => ?_)
    refine lv_aload_n hx hb d16 rfl (lv_at hl 6 rfl) ?_
    refine lv_iconst (v := 0) hx hb d17 (by decide) ?_
    refine law_lald S hGH.1 k3 d18 ?_
    refine lv_iload hx hb d19 (lv_at hl 0 rfl) ?_
    refine lv_i2l (v := va.toInt64) hx hb d21 rfl ?_
    refine W.lcmp hx hb d22 ?_
    rw [k2, k4, lcmp_self]
    refine lv_if_eq (tgt := t + 28) hx hb d23 (by omega) (fun _ => ?_) (fun c => absurd rfl c)
    refine lv_goto (tgt := 2103) hx hb d28 ht ?_
    exact kk f' g' ls ⟨k1, hLI2 hk, k5, ⟨r, k3⟩, b3⟩ hl9
  · obtain ⟨⟨k1, k3⟩, k5⟩ := b2 hk
    refine law_th S hz hG b3 k5 hR hf hl.1 d1 ?_
    refine lv_iload hx hb d4 (lv_at hl 1 rfl) ?_
    refine lv_icmp_eq (tgt := t + 11) hx hb d6 (by omega) (fun _ => ?_) (fun c => absurd rfl c)
    refine lv_iload hx hb d11 (lv_at hl 1 rfl) ?_
    refine lv_if_ne (tgt := t + 28) hx hb d13 (by omega) (fun _ => ?_) (fun c => absurd ((ecd_z hL).mp c) hk)
    refine lv_goto (tgt := 2103) hx hb d28 ht ?_
    exact kk f g ls ⟨k1, hLI, k5, k3, b3⟩ hl9
end QLC
section QLD
variable {p : Program} {l : Launch} {e : Env} {R : Room} {s : State} {m : MethodId} {args : Array Value} {below : List Frame} {meth : Method} {c : Code} {H : Heap} {locs : List Loc} {cells slots : Nat} {Q : State → Prop}
variable {ws ws' : List Cond} {bytes : ByteArray} {maxL index n : Nat} {C : String} {y : MethodName} {ret : Option FieldType} {rm : Room} {b pc : Nat} {As rest st0 : List Value} {ls : Array Slot} {G : GT} {v : Option Value}
/-- a reader of the class that isn't refused, from the law -/
theorem law_rx (S : CallFix p m c cL_law 9 s args wsL_law RL) (hG : GK G H s) (hH : RxV l G H y ws rm (.ref b :: As) none v) (hT : GoodIn wsL_law (wsV RL index C y ws)) (hw : ws = Cond.code y bytes maxL ret :: ws') (h0 : rm.cells = 1 ∧ rm.slots = 6) (hd : nmV y C n) (hR : rm.frames + 1 ≤ R.frames ∧ 8 + (maxL + 11) + rm.locals ≤ R.locals)
    (hcell : ∃ cell : Cell, H[b]? = some cell ∧ cell.vm.isStatics = false ∧ s.vm.findClass C = some cell.cls) (hn : As.length = n) (hsz : ls.size = 9) (hst : st0 = As.reverse ++ .ref b :: rest) (hW : (rest.map fun v => v.category).sum ≤ 8) (hf : cells + 1 ≤ R.cells ∧ slots + 6 ≤ R.slots) (hdg : decode cL_law pc = .ok (.invokevirtual index, 3))
    (kk : W p l e R s m args below meth c H locs (cells + 1) (slots + 6) Q (F0 m (pc + 3) ls (v.toList ++ rest))) : W p l e R s m args below meth c H locs cells slots Q (F0 m pc ls st0) := by
  intro T hTT X
  rcases vx_runV S hH (cwV n S.2.2.2.2 hT hw h0.1 h0.2 hd hR) ⟨rd_blind, hcell, fun U hU hWW => ⟨rfl, hU, GK.warm hWW hG⟩⟩ rfl hn hsz hst (lv_room hW) hdg hf T hTT X with ⟨v', st₀, t, T', L9, h09, X', hL, e1, e2, ⟨hk1, hv, hh⟩, st⟩ | ⟨q, st₀, t, T', L9, E, ce, h09, X', hL, e1, e2, ⟨hk2, hext⟩, hce, hcv, hcl, st⟩
  · cases hv
    have hL9 : L9 = [] := List.eq_nil_iff_forall_not_mem.mpr fun q hq => hL q hq
    subst hL9
    rw [List.append_nil] at X'
    obtain ⟨t2, a1, b1⟩ := kk T' (by rw [e1]; exact hh) X'
    exact ⟨t2, st t2 a1, b1⟩
  · cases hk2
/-- one int of the script, pushed -/
theorem law_arg {Lx i j q bb : Nat} {xs : Nat → Int32} {J : Int} (S : CallFix p m c cL_law 9 s args wsL_law RL) (hX : va_X bb Lx xs s s.heap) (hbl : bb < s.heap.size) (hS : va_S (fun q => s.heap.size ≤ q) s.heap H locs) (hJ : Int32.ofInt J = nI j) (hi : i + j < Lx) (hLx : Lx ≤ 3072) (h0 : ls[0]? = some (.val (.ref bb))) (h5 : ls[5]? = some (.val (.int (nI i)))) (d0 : decode cL_law q = .ok (.aload_n 0, 1)) (d1 : decode cL_law (q + 1) = .ok (.iload 5, 2)) (d3 : decode cL_law (q + 3) = .ok (.iconst J, 1)) (d4 : decode cL_law (q + 4) = .ok (.iadd, 1)) (d5 : decode cL_law (q + 5) = .ok (.iaload, 1))
    (kk : W p l e R s m args below meth c H locs cells slots Q (F0 m (q + 6) ls (.int (xs (i + j)) :: rest))) : W p l e R s m args below meth c H locs cells slots Q (F0 m q ls rest) := by
  have hx := S.1
  have hb := S.2.1
  refine lv_aload_n hx hb d0 rfl h0 ?_
  refine lv_iload hx hb d1 h5 ?_
  refine lv_iconst (v := nI j) hx hb d3 hJ ?_
  refine lv_iadd hx hb d4 ?_
  rw [nI_add]
  refine va_sld hx hb hX hbl (Nat.not_le.mpr hbl) hS (vp_in_nI hi (by omega)) d5 ?_
  rw [nI_clamp (by omega)]
  exact kk
theorem and31 (x : Int32) : ∃ k, k < 32 ∧ x &&& 31 = nI k := by
  have h1 : (x &&& 31).toBitVec.toNat < 32 := by
    rw [Int32.toBitVec_and, BitVec.toNat_and]
    have h2 : (31 : Int32).toBitVec.toNat = 31 := by decide
    rw [h2]
    have := Nat.and_le_right (n := x.toBitVec.toNat) (m := 31)
    omega
  refine ⟨(x &&& 31).toBitVec.toNat, h1, ?_⟩
  refine Int32.toBitVec_inj.mp ?_
  show _ = BitVec.ofNat 32 _
  rw [BitVec.ofNat_toNat, BitVec.setWidth_eq]
end QLD
