/-! ===== notices told and cancelled ===== -/
section NTC
variable {f f' : Nat → Nat → Int32} {g g' : Nat → Nat} {i : Nat} {d p a kn w x y t b : Int32}
/-- what speaks of obstacles, procedures, aids and charts alone -/
theorem lH_cg (e : ∀ k, k < 19 → f' k = f k) (e1 : g' 1 = g 1) : lH f' g' p d w = lH f g p d w := by
  unfold lH isTh ndOf kiOf aidOf
  rw [e 10 (by decide), e 11 (by decide), e 12 (by decide), e 13 (by decide), e 14 (by decide), e 15 (by decide), e 17 (by decide), e 18 (by decide), e1]
theorem hOn_cg (e : ∀ k, k < 22 → f' k = f k) : ∀ n, hOn f' p d n = hOn f p d n
  | 0 => rfl
  | n + 1 => by
    have e1 : hOn f p d (n + 1) = if rowAt 20 (f 19) (nI n) = p ∧ ¬ d < rowAt 20 (f 20) (nI n) then rowAt 20 (f 21) (nI n) else hOn f p d n := rfl
    have e2 : hOn f' p d (n + 1) = if rowAt 20 (f' 19) (nI n) = p ∧ ¬ d < rowAt 20 (f' 20) (nI n) then rowAt 20 (f' 21) (nI n) else hOn f' p d n := rfl
    rw [e1, e2, e 19 (by decide), e 20 (by decide), e 21 (by decide), hOn_cg e n]
theorem aid_cg (e : ∀ k, k < 19 → f' k = f k) : aidOf f' p = aidOf f p := by
  unfold aidOf
  rw [e 17 (by decide)]
theorem isGd_cg (e : ∀ k, k < 19 → f' k = f k) : isGd f' a d = isGd f a d := by
  unfold isGd
  rw [e 16 (by decide)]
theorem isAc_p {k : Nat} (hk : k < 16) : isAc f (nI k) d kn = decide ((¬ f 22 k = 3 ∧ ¬ d < f 25 k ∧ ¬ f 26 k < d) ∧ (f 27 k = -1 ∨ ¬ f 27 k < kn ∨ d < rowAt 16 (f 25) (f 27 k))) := by
  unfold isAc
  rw [rowAt_in hk (by decide), rowAt_in hk (by decide), rowAt_in hk (by decide), rowAt_in hk (by decide)]
/-- a notice whose cells are as they were, known by one who knows more -/
theorem isAc_cg (h : LI f g) {k M : Nat} (hk : k < g 5) (hM : g 5 ≤ M) (hM2 : M ≤ 16) (r : ∀ q, q < g 5 → f' 22 q = f 22 q ∧ f' 25 q = f 25 q ∧ f' 26 q = f 26 q ∧ f' 27 q = f 27 q) : isAc f' (nI k) d (nI M) = isAc f (nI k) d (nI (g 5)) := by
  have h5 := h.1.2.2.2.2.1
  obtain ⟨r1, r2, r3, r4⟩ := r k hk
  rw [isAc_p (by omega), isAc_p (by omega), r1, r2, r3, r4]
  rcases h.2.2.2.2.2.2.2.2 k hk with ⟨m1, -⟩ | ⟨c, m1, m2, m3, -⟩
  · rw [m1]
    have e9 : ∀ P Q : Prop, ((-1 : Int32) = -1 ∨ P) ↔ ((-1 : Int32) = -1 ∨ Q) := fun P Q => ⟨fun _ => Or.inl rfl, fun _ => Or.inl rfl⟩
    exact decide_eq_decide.mpr (and_congr Iff.rfl (e9 _ _))
  · rw [m3, rowAt_in (show c < 16 by omega) (by decide), rowAt_in (show c < 16 by omega) (by decide), (r c m1).2.1]
    have n1 : ¬ ¬ nI c < nI M := fun z => z (nI_lt (by omega) (by omega))
    have n2 : ¬ ¬ nI c < nI (g 5) := fun z => z (nI_lt (by omega) (by omega))
    refine decide_eq_decide.mpr (and_congr Iff.rfl (or_congr Iff.rfl ?_))
    exact ⟨fun z => z.elim (fun y => absurd y n1) Or.inr, fun z => z.elim (fun y => absurd y n2) Or.inr⟩
theorem nF_cg (h : LI f g) {M : Nat} (hM : g 5 ≤ M) (hM2 : M ≤ 16) (r : ∀ q, q < g 5 → f' 22 q = f 22 q ∧ f' 25 q = f 25 q ∧ f' 26 q = f 26 q ∧ f' 27 q = f 27 q) (r2 : ∀ q, q < g 5 → f' 23 q = f 23 q ∧ f' 24 q = f 24 q) : nF f' p a d (nI M) (g 5) = nF f p a d (nI (g 5)) (g 5) := by
  unfold nF
  refine fl_cg fun j hj o => ?_
  cases o with
  | none => rfl
  | some q =>
    unfold stp
    rw [isAc_cg h hj hM hM2 r, rowAt_in (show j < 16 by omega) (by decide), rowAt_in (show j < 16 by omega) (by decide), rowAt_in (show j < 16 by omega) (by decide), rowAt_in (show j < 16 by omega) (by decide), rowAt_in (show j < 16 by omega) (by decide), rowAt_in (show j < 16 by omega) (by decide), (r j hj).1, (r2 j hj).1, (r2 j hj).2]
theorem stp_s {j : Nat} {q : Int32} : stp f p a d kn j (some q) = if ¬ isAc f (nI j) d kn = true then some q else if (rowAt 16 (f 22) (nI j) = 1 ∧ rowAt 16 (f 23) (nI j) = a) ∨ (rowAt 16 (f 22) (nI j) = 2 ∧ rowAt 16 (f 23) (nI j) = p) then none else if rowAt 16 (f 22) (nI j) = 0 ∧ rowAt 16 (f 23) (nI j) = p then some (imax q (rowAt 16 (f 24) (nI j))) else some q := rfl
theorem gs_ne {c n j : Nat} (h : j ≠ c) : gset g c n j = g j := if_neg h
/-! a notice told -/
theorem no_r (hl : g 5 < 16) : (∀ q, q < g 5 → noAdd f g x y t a b 22 q = f 22 q ∧ noAdd f g x y t a b 25 q = f 25 q ∧ noAdd f g x y t a b 26 q = f 26 q ∧ noAdd f g x y t a b 27 q = f 27 q) ∧ ∀ q, q < g 5 → noAdd f g x y t a b 23 q = f 23 q ∧ noAdd f g x y t a b 24 q = f 24 q :=
  ⟨fun q hq => ⟨noAdd_o hl (by omega), noAdd_o hl (by omega), noAdd_o hl (by omega), noAdd_o hl (by omega)⟩, fun q hq => ⟨noAdd_o hl (by omega), noAdd_o hl (by omega)⟩⟩
theorem iv_notice (h : IV f g) (hx : ¬ x = 3) (hl : g 5 < 16) (ht : 0 ≤ t.toInt ∧ t.toInt ≤ 500) : IV (noAdd f g x y t a b) (gset g 5 (g 5 + 1)) := by
  refine ⟨li_notice h.1 hx hl, fun j hj => ?_, fun j hj => ?_⟩
  · rw [noAdd_ne (by decide)]
    exact h.2.1 j hj
  · have hj2 : j < g 5 + 1 := hj
    by_cases e : j = g 5
    · subst e
      rw [noAdd_24 hl]; exact ht
    · rw [noAdd_o hl e]
      exact h.2.2 j (by omega)
theorem iv_cancel (h : IV f g) (hi : i < g 5) (hk : ¬ f 22 i = 3) (hl : g 5 < 16) : IV (caAdd f g (nI i) (nI (g 0))) (gset g 5 (g 5 + 1)) := by
  refine ⟨li_cancel h.1 hi hk hl, fun j hj => ?_, fun j hj => ?_⟩
  · rw [caAdd_ne (by decide), noAdd_ne (by decide)]
    exact h.2.1 j hj
  · have hj2 : j < g 5 + 1 := hj
    rw [caAdd_ne (by decide)]
    by_cases e : j = g 5
    · subst e
      rw [noAdd_24 hl, z0]; omega
    · rw [noAdd_o hl e]
      exact h.2.2 j (by omega)
theorem iv_obstacle (h : IV f g) {x y t a b : Int32} (hp : koPl x y a b = none) (ht : koArg t 0 999 = none) (hl : g 1 < 12) : IV (obAdd f g x y t a b) (gset g 1 (g 1 + 1)) := by
  refine ⟨li_obstacle h.1 hp ht hl, fun j hj => ?_, fun j hj => ?_⟩
  · rw [obAdd_ne (by decide)]; exact h.2.1 j hj
  · rw [obAdd_ne (by decide)]; exact h.2.2 j hj
theorem iv_procedure (h : IV f g) {a : Nat} {v : Int32} (ha : a < 3) (hv : ¬ v = -1) (hl : g 3 < 4) : IV (prAdd f g (nI a) v) (gset g 3 (g 3 + 1)) := by
  refine ⟨li_procedure h.1 ha hv hl, fun j hj => ?_, fun j hj => ?_⟩
  · rw [prAdd_ne (by decide)]; exact h.2.1 j hj
  · rw [prAdd_ne (by decide)]; exact h.2.2 j hj
theorem iv_pass (h : IV f g) {d m : Nat} (hd : g 0 + d ≤ 399) (hm : m ≤ 63 * d) : IV f (gset (gset g 0 (g 0 + d)) 7 (g 7 + m)) := ⟨li_pass h.1 hd hm, h.2.1, h.2.2⟩
theorem iv_amend (h : IV f g) {v w : Int32} (hi : i < g 3) (hl : g 4 < 20) (hw : 200 ≤ w.toInt ∧ w.toInt ≤ 1410) : IV (amAdd f g (nI i) v w) (gset g 4 (g 4 + 1)) := by
  refine ⟨li_amend h.1 hi hl, fun j hj => ?_, fun j hj => ?_⟩
  · have hj2 : j < g 4 + 1 := hj
    by_cases e : j = g 4
    · subst e
      rw [amAdd_21 hl]; exact hw
    · rw [amAdd_o hl e]
      exact h.2.1 j (by omega)
  · rw [amAdd_ne (by decide)]; exact h.2.2 j hj
theorem iv_fS (h : IV f g) {k n : Nat} {v : Int32} (hk : k = 16 ∨ k = 28) : IV (fS f k n v) g := by
  refine ⟨li_fS h.1 (by omega), fun j hj => ?_, fun j hj => ?_⟩
  · rw [fS_ne (by omega)]; exact h.2.1 j hj
  · rw [fS_ne (by omega)]; exact h.2.2 j hj
theorem iv_read (h : IV f g) {c : Nat} (hc : c < 4) : IV (fS f 29 c (nI (g 5))) g := by
  refine ⟨li_read h.1 hc, fun j hj => ?_, fun j hj => ?_⟩
  · rw [fS_ne (by omega)]; exact h.2.1 j hj
  · rw [fS_ne (by omega)]; exact h.2.2 j hj
/-! the raise that would do, told -/
theorem ra_st (hl : g 5 < 16) (h27 : f 27 (g 5) = -1) {V D : Nat} {q : Int32} (h0 : g 0 ≤ D) (h1 : D ≤ 399) : stp (noAdd f g 0 (nI i) (nI V) (nI (g 0)) (nI 399)) (nI i) a (nI D) (nI (g 5 + 1)) (g 5) (some q) = some (imax q (nI V)) := by
  have e22 : noAdd f g 0 (nI i) (nI V) (nI (g 0)) (nI 399) 22 (g 5) = 0 := noAdd_22 hl
  have e23 : noAdd f g 0 (nI i) (nI V) (nI (g 0)) (nI 399) 23 (g 5) = nI i := noAdd_23 hl
  have e24 : noAdd f g 0 (nI i) (nI V) (nI (g 0)) (nI 399) 24 (g 5) = nI V := noAdd_24 hl
  have e25 : noAdd f g 0 (nI i) (nI V) (nI (g 0)) (nI 399) 25 (g 5) = nI (g 0) := noAdd_25 hl
  have e26 : noAdd f g 0 (nI i) (nI V) (nI (g 0)) (nI 399) 26 (g 5) = 399 := noAdd_26 hl
  have e27 : noAdd f g 0 (nI i) (nI V) (nI (g 0)) (nI 399) 27 (g 5) = -1 := by rw [noAdd_ne (by decide)]; exact h27
  generalize noAdd f g 0 (nI i) (nI V) (nI (g 0)) (nI 399) = F at *
  have hac : isAc F (nI (g 5)) (nI D) (nI (g 5 + 1)) = true := by
    rw [isAc_p hl, e22, e25, e26, e27]
    exact decide_eq_true ⟨⟨by decide, nI_nlt h0 (by omega), lp_n399 h1⟩, Or.inl rfl⟩
  rw [stp_s, rowAt_in hl (by decide), rowAt_in hl (by decide), rowAt_in hl (by decide), e22, e23, e24, if_neg (fun z => z hac), if_neg (fun z => z.elim (fun y => absurd y.1 (by decide)) (fun y => absurd y.1 (by decide))), if_pos ⟨rfl, rfl⟩]
theorem ra_un (h : IV f g) (hi : i < g 3) (hl : g 5 < 16) {V : Nat} (hV : V ≤ 500) (hd : ∀ d, g 0 ≤ d → d ≤ 399 → isUn f g (nI i) (nI d) = true → (dlt f g (nI i) (nI d)).toInt ≤ V) {D : Nat} (h0 : g 0 ≤ D) (h1 : D ≤ 399) : ¬ isUn (noAdd f g 0 (nI i) (nI V) (nI (g 0)) (nI 399)) (gset g 5 (g 5 + 1)) (nI i) (nI D) = true := by
  have e : ∀ k, k < 22 → noAdd f g 0 (nI i) (nI V) (nI (g 0)) (nI 399) k = f k := fun k hk => noAdd_ne (Or.inl hk)
  have h27 : f 27 (g 5) = -1 := h.1.2.2.2.2.2.2.2.1 (g 5) (Nat.le_refl _)
  have hst := fun q => ra_st (i := i) (a := aidOf f (nI i)) hl h27 (V := V) (q := q) h0 h1
  have hr := no_r (f := f) (x := 0) (y := nI i) (t := nI V) (a := nI (g 0)) (b := nI 399) hl
  have hcg := nF_cg (p := nI i) (a := aidOf f (nI i)) (d := nI D) h.1 (M := g 5 + 1) (by omega) (by omega) hr.1 hr.2
  generalize noAdd f g 0 (nI i) (nI V) (nI (g 0)) (nI 399) = F at *
  have hG5 : gset g 5 (g 5 + 1) 5 = g 5 + 1 := rfl
  have hn := hIF_n (f := F) (g := gset g 5 (g 5 + 1)) (p := nI i) (d := nI D) (by rw [hG5]; omega)
  have eN : nF F (nI i) (aidOf f (nI i)) (nI D) (nI (g 5 + 1)) (g 5 + 1) = stp F (nI i) (aidOf f (nI i)) (nI D) (nI (g 5 + 1)) (g 5) (nF f (nI i) (aidOf f (nI i)) (nI D) (nI (g 5)) (g 5)) := by
    show stp F (nI i) (aidOf f (nI i)) (nI D) (nI (g 5 + 1)) (g 5) (nF F (nI i) (aidOf f (nI i)) (nI D) (nI (g 5 + 1)) (g 5)) = _
    rw [hcg]
  rw [hG5, aid_cg (fun k hk => e k (by omega)), isGd_cg (fun k hk => e k (by omega)), eN] at hn
  have hO : hOn F (nI i) (nI D) (gset g 5 (g 5 + 1) 4) = hOn f (nI i) (nI D) (g 4) := hOn_cg e (g 4)
  rw [hO] at hn
  obtain ⟨q2, q3, q4, q5⟩ := lH_q h.1 hi (nI D) (-1)
  have hL : lH F (gset g 5 (g 5 + 1)) (nI i) (nI D) (-1) = nI (10 * q2) := by rw [← q5]; exact lH_cg (fun k hk => e k (by omega)) rfl
  have hf := hIF_n (f := f) (g := g) (p := nI i) (d := nI D) (by omega)
  by_cases g1 : isGd f (aidOf f (nI i)) (nI D) = true
  · rw [if_neg (fun z => z g1)] at hn hf
    rcases hOn_c h.2.1 h.1.1.2.2.2.1 (nI i) (nI D) (g 4) (Nat.le_refl _) with hc | ⟨ch, c1, c2, c3⟩
    · rw [hc, if_pos rfl] at hn
      exact isUn_n hn
    · rw [c3, if_neg (nI_m1 (by omega))] at hn hf
      rcases nF_b (p := nI i) (a := aidOf f (nI i)) (d := nI D) (kn := nI (g 5)) h.2.2 h.1.1.2.2.2.2.1 (g 5) (Nat.le_refl _) with hq | ⟨q, hq, hq2⟩
      · rw [hq] at hn
        exact isUn_n hn
      · rw [hq2, hst, imax_nI (by omega) (by omega)] at hn
        rw [hq2] at hf
        have hf2 : hIF f g (nI i) (nI D) = nI (ch + q) := hf.trans (nI_add ch q)
        have hn2 : hIF F (gset g 5 (g 5 + 1)) (nI i) (nI D) = nI (ch + max q V) := hn.trans (nI_add ch _)
        rw [isUn_p hn2 hL (by omega) (by omega)]
        intro hlt
        by_cases hu : ch + q < 10 * q2
        · have h9 := hd D h0 h1 ((isUn_p hf2 q5 (by omega) (by omega)).mpr hu)
          unfold dlt at h9
          rw [q5, c3, pk_sub_toInt (by omega) (by omega)] at h9
          omega
        · omega
  · rw [if_pos g1] at hn
    exact isUn_n hn
/-! and cancelled -/
theorem ca_d {N : Nat} {v : Int32} (hN : N < 16) (h27 : f 27 N = -1) : caAdd f g (nI N) v = fS (noAdd f g 3 (nI N) 0 v (-1)) 27 N (nI (g 5)) := by
  have e27 : noAdd f g 3 (nI N) 0 v (-1) 27 = f 27 := noAdd_ne (by decide)
  unfold caAdd
  rw [e27, rowAt_in hN (by decide), if_pos h27, rowPut_fS (k := 27) hN]
/-- the last notice is cancelled on the day on which it was told: all is as without both -/
theorem ca_hI (h : LI f g) (hl : g 5 + 1 < 16) {x y t a b : Int32} (p : Int32) {D : Nat} (h0 : g 0 ≤ D) (h1 : D ≤ 399) : hIF (caAdd (noAdd f g x y t a b) (gset g 5 (g 5 + 1)) (nI (g 5)) (nI (g 0))) (gset (gset g 5 (g 5 + 1)) 5 (g 5 + 1 + 1)) p (nI D) = hIF f g p (nI D) := by
  have hf := hIF_n (f := f) (g := g) (p := p) (d := nI D) (by omega)
  have h27 : noAdd f g x y t a b 27 (g 5) = -1 := by
    rw [noAdd_ne (by decide)]
    exact h.2.2.2.2.2.2.2.1 (g 5) (Nat.le_refl _)
  have e0 : ∀ k, k < 22 → noAdd f g x y t a b k = f k := fun k hk => noAdd_ne (Or.inl hk)
  have r0 := no_r (f := f) (x := x) (y := y) (t := t) (a := a) (b := b) (show g 5 < 16 by omega)
  generalize noAdd f g x y t a b = F at *
  have hG5 : gset g 5 (g 5 + 1) 5 = g 5 + 1 := rfl
  rw [ca_d (show g 5 < 16 by omega) h27, hG5]
  have hlG : (gset g 5 (g 5 + 1)) 5 < 16 := hl
  have hb : ∀ k, ¬ k = 27 → fS (noAdd F (gset g 5 (g 5 + 1)) 3 (nI (g 5)) 0 (nI (g 0)) (-1)) 27 (g 5) (nI (g 5 + 1)) k = noAdd F (gset g 5 (g 5 + 1)) 3 (nI (g 5)) 0 (nI (g 0)) (-1) k := fun k hk => fS_ne hk
  have e27 : noAdd F (gset g 5 (g 5 + 1)) 3 (nI (g 5)) 0 (nI (g 0)) (-1) 27 = F 27 := noAdd_ne (by decide)
  have e : ∀ k, k < 22 → fS (noAdd F (gset g 5 (g 5 + 1)) 3 (nI (g 5)) 0 (nI (g 0)) (-1)) 27 (g 5) (nI (g 5 + 1)) k = f k := fun k hk => by
    rw [hb k (by omega), noAdd_ne (Or.inl hk)]; exact e0 k hk
  have o : ∀ k q, ¬ k = 27 → ¬ q = g 5 + 1 → fS (noAdd F (gset g 5 (g 5 + 1)) 3 (nI (g 5)) 0 (nI (g 0)) (-1)) 27 (g 5) (nI (g 5 + 1)) k q = F k q := fun k q hk hq => by
    rw [hb k hk]; exact noAdd_o hlG hq
  have v22 : fS (noAdd F (gset g 5 (g 5 + 1)) 3 (nI (g 5)) 0 (nI (g 0)) (-1)) 27 (g 5) (nI (g 5 + 1)) 22 (g 5 + 1) = 3 := by
    rw [hb 22 (by decide)]; exact noAdd_22 hlG
  have v25 : fS (noAdd F (gset g 5 (g 5 + 1)) 3 (nI (g 5)) 0 (nI (g 0)) (-1)) 27 (g 5) (nI (g 5 + 1)) 25 (g 5 + 1) = nI (g 0) := by
    rw [hb 25 (by decide)]; exact noAdd_25 hlG
  have v27 : fS (noAdd F (gset g 5 (g 5 + 1)) 3 (nI (g 5)) 0 (nI (g 0)) (-1)) 27 (g 5) (nI (g 5 + 1)) 27 (g 5) = nI (g 5 + 1) := fS_i
  have o27 : ∀ q, ¬ q = g 5 → fS (noAdd F (gset g 5 (g 5 + 1)) 3 (nI (g 5)) 0 (nI (g 0)) (-1)) 27 (g 5) (nI (g 5 + 1)) 27 q = F 27 q := fun q hq => by
    rw [fS_o hq, e27]
  generalize fS (noAdd F (gset g 5 (g 5 + 1)) 3 (nI (g 5)) 0 (nI (g 0)) (-1)) 27 (g 5) (nI (g 5 + 1)) = K at *
  have rK : (∀ q, q < g 5 → K 22 q = f 22 q ∧ K 25 q = f 25 q ∧ K 26 q = f 26 q ∧ K 27 q = f 27 q) ∧ ∀ q, q < g 5 → K 23 q = f 23 q ∧ K 24 q = f 24 q := by
    refine ⟨fun q hq => ?_, fun q hq => ?_⟩
    · obtain ⟨a1, a2, a3, a4⟩ := r0.1 q hq
      exact ⟨(o 22 q (by decide) (by omega)).trans a1, (o 25 q (by decide) (by omega)).trans a2, (o 26 q (by decide) (by omega)).trans a3, (o27 q (by omega)).trans a4⟩
    · obtain ⟨a1, a2⟩ := r0.2 q hq
      exact ⟨(o 23 q (by decide) (by omega)).trans a1, (o 24 q (by decide) (by omega)).trans a2⟩
  have hcg := nF_cg (p := p) (a := aidOf f p) (d := nI D) h (M := g 5 + 1 + 1) (by omega) (by omega) rK.1 rK.2
  have n5 : ¬ isAc K (nI (g 5)) (nI D) (nI (g 5 + 1 + 1)) = true := by
    rw [isAc_p (by omega), v27, rowAt_in hl (by decide), v25]
    refine fun z => ?_
    rcases (of_decide_eq_true z).2 with y | y | y
    · exact nI_m1 (by omega) y
    · exact y (nI_lt (by omega) (by omega))
    · exact nI_nlt h0 (by omega) y
  have n6 : ¬ isAc K (nI (g 5 + 1)) (nI D) (nI (g 5 + 1 + 1)) = true := by
    rw [isAc_p hl, v22]
    exact fun z => (of_decide_eq_true z).1.1 rfl
  have st : ∀ (j : Nat) (o9 : Option Int32), ¬ isAc K (nI j) (nI D) (nI (g 5 + 1 + 1)) = true → stp K p (aidOf f p) (nI D) (nI (g 5 + 1 + 1)) j o9 = o9 := fun j o9 hj => by
    cases o9 with
    | none => rfl
    | some q => rw [stp_s, if_pos hj]
  have eN : nF K p (aidOf f p) (nI D) (nI (g 5 + 1 + 1)) (g 5 + 1 + 1) = nF f p (aidOf f p) (nI D) (nI (g 5)) (g 5) := by
    show stp K p (aidOf f p) (nI D) (nI (g 5 + 1 + 1)) (g 5 + 1) (stp K p (aidOf f p) (nI D) (nI (g 5 + 1 + 1)) (g 5) (nF K p (aidOf f p) (nI D) (nI (g 5 + 1 + 1)) (g 5))) = _
    rw [hcg, st _ _ n5, st _ _ n6]
  have hG6 : gset (gset g 5 (g 5 + 1)) 5 (g 5 + 1 + 1) 5 = g 5 + 1 + 1 := rfl
  have hO : hOn K p (nI D) (gset (gset g 5 (g 5 + 1)) 5 (g 5 + 1 + 1) 4) = hOn f p (nI D) (g 4) := hOn_cg e (g 4)
  rw [hIF_n (by rw [hG6]; omega), hG6, aid_cg (fun k hk => e k (by omega)), isGd_cg (fun k hk => e k (by omega)), eN, hO, hf]
theorem ca_e (hl : g 5 + 1 < 16) {x y t a b v : Int32} : ∀ k, k < 22 → caAdd (noAdd f g x y t a b) (gset g 5 (g 5 + 1)) (nI (g 5)) v k = f k := fun k hk => by
  rw [caAdd_ne (by omega), noAdd_ne (Or.inl hk), noAdd_ne (Or.inl hk)]
theorem ca_lH (hl : g 5 + 1 < 16) {x y t a b v : Int32} {p d w : Int32} : lH (caAdd (noAdd f g x y t a b) (gset g 5 (g 5 + 1)) (nI (g 5)) v) (gset (gset g 5 (g 5 + 1)) 5 (g 5 + 1 + 1)) p d w = lH f g p d w :=
  lH_cg (fun k hk => ca_e hl k (Nat.lt_of_lt_of_le hk (by decide))) ((gs_ne (by decide)).trans (gs_ne (by decide)))
theorem ca_un (h : LI f g) (hl : g 5 + 1 < 16) {x y t a b : Int32} (p : Int32) {D : Nat} (h0 : g 0 ≤ D) (h1 : D ≤ 399) : isUn (caAdd (noAdd f g x y t a b) (gset g 5 (g 5 + 1)) (nI (g 5)) (nI (g 0))) (gset (gset g 5 (g 5 + 1)) 5 (g 5 + 1 + 1)) p (nI D) = isUn f g p (nI D) := by
  have e1 := ca_hI h hl (x := x) (y := y) (t := t) (a := a) (b := b) p h0 h1
  have e2 := ca_lH (f := f) (g := g) hl (x := x) (y := y) (t := t) (a := a) (b := b) (v := nI (g 0)) (p := p) (d := nI D) (w := -1)
  unfold isUn
  rw [e1, e2]
theorem ca_uo (h : LI f g) (hl : g 5 + 1 < 16) {x y t a b : Int32} (p : Int32) : uOn (caAdd (noAdd f g x y t a b) (gset g 5 (g 5 + 1)) (nI (g 5)) (nI (g 0))) (gset (gset g 5 (g 5 + 1)) 5 (g 5 + 1 + 1)) p (400 - g 0) 0 = uOn f g p (400 - g 0) 0 := by
  have h0 := h.1.1
  exact uOn_cg ((gs_ne (by decide)).trans (gs_ne (by decide))) (400 - g 0) 0 fun j h1 h2 => ca_un h hl p (by omega) (by omega)
theorem ca_rF (h : LI f g) (hl : g 5 + 1 < 16) {x y t a b : Int32} (p : Int32) : rFo (caAdd (noAdd f g x y t a b) (gset g 5 (g 5 + 1)) (nI (g 5)) (nI (g 0))) (gset (gset g 5 (g 5 + 1)) 5 (g 5 + 1 + 1)) p = rFo f g p := by
  have h0 := h.1.1
  have f0 : gset (gset g 5 (g 5 + 1)) 5 (g 5 + 1 + 1) 0 = g 0 := (gs_ne (by decide)).trans (gs_ne (by decide))
  have f4 : gset (gset g 5 (g 5 + 1)) 5 (g 5 + 1 + 1) 4 = g 4 := (gs_ne (by decide)).trans (gs_ne (by decide))
  have eu := fun (D : Nat) (a1 : g 0 ≤ D) (a2 : D ≤ 399) => ca_un h hl (x := x) (y := y) (t := t) (a := a) (b := b) p a1 a2
  have el := fun (d : Int32) => ca_lH (f := f) (g := g) hl (x := x) (y := y) (t := t) (a := a) (b := b) (v := nI (g 0)) (p := p) (d := d) (w := -1)
  have eo := fun (d : Int32) => hOn_cg (p := p) (d := d) (ca_e (f := f) (g := g) hl (x := x) (y := y) (t := t) (a := a) (b := b) (v := nI (g 0))) (g 4)
  have e : rFL (caAdd (noAdd f g x y t a b) (gset g 5 (g 5 + 1)) (nI (g 5)) (nI (g 0))) (gset (gset g 5 (g 5 + 1)) 5 (g 5 + 1 + 1)) p = rFL f g p := by
    generalize caAdd (noAdd f g x y t a b) (gset g 5 (g 5 + 1)) (nI (g 5)) (nI (g 0)) = K at *
    generalize gset (gset g 5 (g 5 + 1)) 5 (g 5 + 1 + 1) = J at *
    unfold rFL
    rw [f0, f4]
    refine fl_cg fun j hj z => ?_
    rw [eu (g 0 + j) (by omega) (by omega), el, eo]
  unfold rFo
  rw [e]
end NTC
