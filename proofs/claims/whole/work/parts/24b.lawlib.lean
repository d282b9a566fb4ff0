/-! the law's calls of the mean -/
section QLE
variable {G : GT} {s : State} {H H1 : Heap} {locs : List Loc} {f : Nat → Nat → Int32} {g : Nat → Nat} {th : Int32}
theorem lm_W2 (h : qLM G s th f g H) (hq : chgo (A0 s.heap.size) (s.heap.size + 56) H H1) : qLM G s th f g H1 := by
  obtain ⟨B, mc, cp, h1, h2, h3, h4⟩ := h
  refine ⟨B, mc, cp, mp_kept h1 (fun j hj => ?_), h2, h3, h4⟩
  have hd := h2.1 j hj
  exact hq.2 _ (mp_lt h1 hj) (fun i hi e => by have := A0_lt (z := s.heap.size) hi; have := hd.1; omega) hd.2.2
theorem lo_W2 (h : qLO G s H) (hq : chgo (A0 s.heap.size) (s.heap.size + 56) H H1) : qLO G s H1 := by
  obtain ⟨r, hr⟩ := h
  exact ⟨r, hr.kept (hq.2 _ hr.lt (fun i hi e => by have := A0_lt (z := s.heap.size) hi; omega) (by omega))⟩
theorem ls_W2 {L9 : List Loc} (h2 : va_S (fun q => s.heap.size ≤ q) s.heap H locs) (hq : chgo (A0 s.heap.size) (s.heap.size + 56) H H1) (hL : ∀ q ∈ L9, wl_D (A0 s.heap.size) (s.heap.size + 56) q.base) : va_S (fun q => s.heap.size ≤ q) s.heap H1 (locs ++ L9) := by
  refine ⟨Nat.le_trans h2.1 hq.1, fun q h3 h4 => (hq.2 q (Nat.lt_of_lt_of_le h3 h2.1) (fun i hi e => h4 (by rw [e]; exact A0_ge)) (fun e => h4 (by rw [e]; exact Nat.le_add_right _ _))).trans (h2.2.1 q h3 h4), fun q hq9 => ?_⟩
  rcases List.mem_append.mp hq9 with h5 | h5
  · exact h2.2.2 q h5
  · rcases hL q h5 with ⟨i, hi, e⟩ | e
    · show s.heap.size ≤ q.base
      rw [e]; exact A0_ge
    · show s.heap.size ≤ q.base
      rw [e]; exact Nat.le_add_right _ _
end QLE
section QLG
variable {p : Program} {l : Launch} {e : Env} {R : Room} {s : State} {m : MethodId} {args : Array Value} {below : List Frame} {meth : Method} {c : Code} {H H1 : Heap} {locs : List Loc} {cells slots : Nat} {Q : State → Prop}
variable {ws ws' : List Cond} {bytes : ByteArray} {maxL index n : Nat} {y : MethodName} {ret : Option FieldType} {rm : Room} {pc : Nat} {As rest st0 : List Value} {ls : Array Slot} {G : GT} {f : Nat → Nat → Int32} {g : Nat → Nat} {ko : Option String} {L : List String} {th k : Int32} {x : UInt64} {hh : List (Nat × Nat × Nat × Nat)}
theorem law_Wd (S : CallFix p m c cL_law 9 s args wsL_law RL) (hz : G.2.2.1 = s.heap.size) (hG : GK G s.heap s) (hN : GN s) (hI : qLW G s th f g H locs) (hM : ∀ r, va_at G.1 vwCl (s.heap.size + 56, oD G r) H → WLD l G (A0 s.heap.size) (s.heap.size + 56) H y ws rm As L ko x f g) (hT : GoodIn wsL_law (va_wsS RL index y ws)) (hw : ws = Cond.codeWith y bytes maxL (some .int) hh :: ws') (h0 : rm.cells = 1 ∧ rm.slots = 6) (hd : nmV y RL n) (hR : rm.frames + 1 ≤ R.frames ∧ 8 + (maxL + 11) + rm.locals ≤ R.locals)
    (hn : As.length = n) (hsz : ls.size = 9) (hst : st0 = As.reverse ++ rest) (hW : (rest.map fun v => v.category).sum ≤ 8) (hf : cells + 1 ≤ R.cells ∧ slots + 6 ≤ R.slots) (hdg : decode cL_law pc = .ok (.invokestatic index, 3))
    (kk : ∀ (H2 : Heap) (locs2 : List Loc) (r : Nat → UInt64), qLRP G s f g H2 → qLO G s H2 → qLM G s th f g H2 → (ko = none → r 0 = x) → va_at G.1 vwCl (s.heap.size + 56, oD G r) H2 → qLR G s H2 locs2 → W p l e R s m args below meth c H2 locs2 (cells + 1) (slots + 6) Q (F0 m (pc + 3) ls (.int (ecd L ko) :: rest))) : W p l e R s m args below meth c H locs cells slots Q (F0 m pc ls st0) := by
  obtain ⟨i1, i2, i3, i4, i5⟩ := hI
  have hGH := lr_gk hz hG i5
  obtain ⟨⟨r, hr⟩, j1, j2⟩ := i5
  intro T hT9 X
  obtain ⟨v', st₀, t, T', L9, h09, X', hL, e1, -, ⟨q1, q2, q3, q4, q5⟩, st⟩ := vx_runSW S (hM r hr) (vx_cwSW n S.2.2.2.2 hT hw h0.1 h0.2 hd.2 hR) ⟨wl_blind, fun U hU hWW => ⟨rfl, hU, GK.warm hWW hGH, GN.warm hWW hN⟩⟩ rfl hn hsz hst (lv_room hW) hdg hf T hT9 X
  have hv2 : v' = some (.int (ecd L ko)) := by injection q1
  subst hv2
  rw [← e1] at q2 q3 q4 q5
  have h9 : ∃ r2 : Nat → UInt64, (ko = none → r2 0 = x) ∧ va_at G.1 vwCl (s.heap.size + 56, oD G r2) T'.heap := by
    by_cases hk : ko = none
    · obtain ⟨r2, a1, a2⟩ := q4 hk
      exact ⟨r2, fun _ => a1, a2⟩
    · obtain ⟨r2, a2⟩ := q5 hk
      exact ⟨r2, fun z => absurd z hk, a2⟩
  obtain ⟨r2, a1, a2⟩ := h9
  obtain ⟨t2, b1, b2⟩ := kk T'.heap (locs ++ L9) r2 q3 (lo_W2 i4 q2) (lm_W2 i3 q2) a1 a2 ⟨⟨r2, a2⟩, Nat.le_trans j1 q2.1, ls_W2 j2 q2 hL⟩ T' rfl X'
  exact ⟨t2, st t2 b1, b2⟩
theorem law_Md (S : CallFix p m c cL_law 9 s args wsL_law RL) (hz : G.2.2.1 = s.heap.size) (hG : GK G s.heap s) (hX : GX s) (i5 : qLR G s H locs) (i3 : qLM G s th f g H) {P : Option Value → Prop} {nc ns : Nat} (hM : ∀ (B : Nat → Nat) (mc : Nat → Int32) (cp : Nat → Nat), MP G B th mc cp f g H → DP G (qlD s.heap.size) H.size → DB (qlD s.heap.size) B cp g → CG cp → MwV l G (qlD s.heap.size) H y ws rm (.ref (B 0) :: As) nc ns (fun v t => P v ∧ MX G (qlD s.heap.size) (B 0) k f g t)) (hT : GoodIn wsL_law (wsV RL index RX11 y ws)) (hw : ws = Cond.code y bytes maxL ret :: ws') (h0 : rm.cells = nc ∧ rm.slots = ns) (hd : nmV y RX11 n) (hR : rm.frames + 1 ≤ R.frames ∧ 8 + (maxL + 11) + rm.locals ≤ R.locals)
    (hn : As.length = n) (hsz : ls.size = 9) (hst : st0 = As.reverse ++ .ref (s.heap.size + 47) :: rest) (hW : (rest.map fun v => v.category).sum ≤ 8) (hf : cells + nc ≤ R.cells ∧ slots + ns ≤ R.slots) (hdg : decode cL_law pc = .ok (.invokevirtual index, 3))
    (kk : ∀ (H2 : Heap) (locs2 : List Loc) (v : Option Value), P v → qLM G s k f g H2 → va_S (qlD s.heap.size) H H2 [] → va_S (fun q => s.heap.size ≤ q) s.heap H2 locs2 → W p l e R s m args below meth c H2 locs2 (cells + nc) (slots + ns) Q (F0 m (pc + 3) ls (v.toList ++ rest))) : W p l e R s m args below meth c H locs cells slots Q (F0 m pc ls st0) := by
  obtain ⟨B, mc, cp, m1, m2, m3, m4⟩ := i3
  have hGH := lr_gk hz hG i5
  have hc := hM B mc cp m1 (lm_dp hz i5) m2 m3
  have h0r := mP_0 m1
  rw [m4] at hc h0r
  exact mw_V (D := fun q => s.heap.size ≤ q) (H := s.heap) S ⟨fun q hq => hq, fun q hq => by rw [hz]; exact hq⟩ hX hGH i5.2.2 hc (fun q hq => Nat.le_trans (Nat.le_add_right _ _) hq.1) hT hw h0 hd hR (rd_rcv hGH.1 h0r rfl) hn hsz hst hW hf hdg (fun H2 locs2 v hS2 hs2 hP hG2 => kk H2 locs2 v hP.1 hP.2 hs2 hS2)
end QLG
