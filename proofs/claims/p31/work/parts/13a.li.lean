/-! ===== what a run keeps of the numbers ===== -/
section QLI
variable {f f' : Nat → Nat → Int32} {g g' : Nat → Nat} {i n : Nat} {x y t a b v : Int32}
theorem koArg_z {lo hi : Int32} (h : koArg v lo hi = none) : lo.toInt ≤ v.toInt ∧ v.toInt ≤ hi.toInt := by
  obtain ⟨h1, h2⟩ := koArg_n h
  exact ⟨zle.mp (Int32.not_lt.mp h1), zle.mp (Int32.not_lt.mp h2)⟩
theorem koPl_z (h : koPl x y a b = none) : (-20 ≤ x.toInt ∧ x.toInt ≤ 60) ∧ (-9 ≤ y.toInt ∧ y.toInt ≤ 9) := by
  obtain ⟨h1, h⟩ := koOr_n h
  obtain ⟨h2, h⟩ := koOr_n h
  have a1 := koArg_z h1
  have a2 := koArg_z h2
  have e1 : (-20 : Int32).toInt = -20 := by decide
  have e2 : (60 : Int32).toInt = 60 := by decide
  have e3 : (-9 : Int32).toInt = -9 := by decide
  have e4 : (9 : Int32).toInt = 9 := by decide
  omega
theorem koTop_z (h : koArg t 0 999 = none) : 0 ≤ t.toInt ∧ t.toInt ≤ 999 := by
  have a1 := koArg_z h
  have e1 : (0 : Int32).toInt = 0 := by decide
  have e2 : (999 : Int32).toInt = 999 := by decide
  omega
/-- only rows that don't count have changed -/
theorem li_cg (h : LI f g) (e : ∀ k j, (10 ≤ k ∧ k ≤ 12) ∨ k = 15 ∨ (17 ≤ k ∧ k ≤ 19) ∨ k = 22 ∨ k = 23 ∨ k = 25 ∨ k = 27 ∨ k = 29 → f' k j = f k j) : LI f' g := by
  obtain ⟨a1, b1, b2, b3, b4, b5, c1, c2, c3⟩ := h
  refine ⟨a1, fun j hj => ?_, fun i hi => ?_, fun a ha => ?_, fun j hj => ?_, fun c hc => ?_, fun j hj h3 => ?_, fun i hi => ?_, fun i hi => ?_⟩
  · unfold obB
    rw [e 10 j (by omega), e 11 j (by omega), e 12 j (by omega)]
    exact b1 j hj
  · rw [e 17 i (by omega), e 18 i (by omega)]; exact b2 i hi
  · rw [e 15 a (by omega)]; exact b3 a ha
  · rw [e 19 j (by omega)]; exact b4 j hj
  · rw [e 29 c (by omega)]; exact b5 c hc
  · rw [e 22 j (by omega)] at h3
    rw [e 25 j (by omega), e 23 j (by omega)]; exact c1 j hj h3
  · rw [e 27 i (by omega)]; exact c2 i hi
  · rw [e 27 i (by omega)]
    rcases c3 i hi with ⟨m1, m2⟩ | ⟨c, m1, m2, m3, m4, m5, m6⟩
    · refine Or.inl ⟨m1, fun j hj h3 => ?_⟩
      rw [e 22 j (by omega)] at h3
      rw [e 23 j (by omega)]; exact m2 j hj h3
    · refine Or.inr ⟨c, m1, m2, m3, ?_, ?_, fun j hj h3 h4 => ?_⟩
      · rw [e 22 c (by omega)]; exact m4
      · rw [e 23 c (by omega)]; exact m5
      · rw [e 22 j (by omega)] at h3
        rw [e 23 j (by omega)] at h4
        rw [e 25 c (by omega), e 25 j (by omega)]; exact m6 j hj h3 h4
theorem li_fS (h : LI f g) {k : Nat} (hk : k = 13 ∨ k = 14 ∨ k = 16 ∨ k = 28) : LI (fS f k n v) g := li_cg h fun q j hq => by rw [fS_ne (by omega)]
theorem li_obstacle (h : LI f g) (hp : koPl x y a b = none) (ht : koArg t 0 999 = none) (hl : g 1 < 12) : LI (obAdd f g x y t a b) (gset g 1 (g 1 + 1)) := by
  have hz := koPl_z hp
  have hz2 := koTop_z ht
  obtain ⟨a1, b1, b2, b3, b4, b5, c1, c2, c3⟩ := li_cg (f' := fun k j => if 10 ≤ k ∧ k ≤ 14 then f k j else obAdd f g x y t a b k j) h (fun k j hk => by
    by_cases h9 : 10 ≤ k ∧ k ≤ 14
    · exact if_pos h9
    · rw [if_neg h9, obAdd_ne (by omega)])
  refine ⟨⟨a1.1, by show g 1 + 1 ≤ 12; omega, a1.2.2⟩, fun j hj => ?_, fun i hi => ?_, b3, b4, b5, c1, c2, c3⟩
  · by_cases e : j = g 1
    · subst e
      unfold obB
      rw [obAdd_10 hl, obAdd_11 hl, obAdd_12 hl]
      exact ⟨hz.1, hz.2, hz2⟩
    · have hj2 : j < g 1 + 1 := hj
      unfold obB
      rw [obAdd_o hl e, obAdd_o hl e, obAdd_o hl e]
      exact h.2.1 j (by omega)
  · exact b2 i hi
theorem li_procedure (h : LI f g) {a : Nat} (ha : a < 3) (hv : ¬ v = -1) (hl : g 3 < 4) : LI (prAdd f g (nI a) v) (gset g 3 (g 3 + 1)) := by
  obtain ⟨a1, b1, b2, b3, b4, b5, c1, c2, c3⟩ := h
  have e : ∀ k j, k < 17 ∨ 18 < k → prAdd f g (nI a) v k j = f k j := fun k j hk => by rw [prAdd_ne hk]
  have h2 := li_cg (f' := fun k j => if 17 ≤ k ∧ k ≤ 18 then f k j else prAdd f g (nI a) v k j) (g := g) ⟨a1, b1, b2, b3, b4, b5, c1, c2, c3⟩ (fun k j hk => by
    by_cases h9 : 17 ≤ k ∧ k ≤ 18
    · exact if_pos h9
    · rw [if_neg h9, prAdd_ne (by omega)])
  obtain ⟨a1, d1, -, d3, d4, d5, e1, e2, e3⟩ := h2
  refine ⟨⟨a1.1, a1.2.1, by show g 3 + 1 ≤ 4; omega, a1.2.2.2⟩, d1, fun i hi => ?_, d3, fun j hj => ?_, d5, e1, e2, e3⟩
  · by_cases e9 : i = g 3
    · subst e9
      rw [prAdd_17 hl, prAdd_18 hl]
      exact ⟨⟨a, ha, rfl⟩, hv⟩
    · have hj2 : i < g 3 + 1 := hi
      rw [prAdd_o hl e9, prAdd_o hl e9]
      exact b2 i (by omega)
  · obtain ⟨i, h1, h2⟩ := d4 j hj
    exact ⟨i, Nat.lt_succ_of_lt h1, h2⟩
theorem li_pass (h : LI f g) {d m : Nat} (hd : g 0 + d ≤ 399) (hm : m ≤ 63 * d) : LI f (gset (gset g 0 (g 0 + d)) 7 (g 7 + m)) := by
  have h2 := li_now h (n := g 0 + d) (by omega) hd
  obtain ⟨⟨a0, a1, a2, a3, a4, a5⟩, b1, b2, b3, b4, b5, c1, c2, c3⟩ := h2
  have h7 := h.1.2.2.2.2.2
  refine ⟨⟨a0, a1, a2, a3, a4, ?_⟩, b1, b2, b3, b4, b5, c1, c2, c3⟩
  show g 7 + m ≤ 63 * (g 0 + d)
  omega
theorem li_amend (h : LI f g) (hi : i < g 3) (hl : g 4 < 20) : LI (amAdd f g (nI i) a b) (gset g 4 (g 4 + 1)) := by
  have hb4 := h.2.2.2.2.1
  obtain ⟨a1, b1, b2, b3, -, b5, c1, c2, c3⟩ := li_cg (f' := fun k j => if 19 ≤ k ∧ k ≤ 21 then f k j else amAdd f g (nI i) a b k j) h (fun k j hk => by
    by_cases h9 : 19 ≤ k ∧ k ≤ 21
    · exact if_pos h9
    · rw [if_neg h9, amAdd_ne (by omega)])
  refine ⟨⟨a1.1, a1.2.1, a1.2.2.1, by show g 4 + 1 ≤ 20; omega, a1.2.2.2.2⟩, b1, b2, b3, fun j hj => ?_, b5, c1, c2, c3⟩
  by_cases e : j = g 4
  · subst e
    exact ⟨i, hi, amAdd_19 hl⟩
  · have hj2 : j < g 4 + 1 := hj
    rw [amAdd_o hl e]
    exact hb4 j (by omega)
theorem li_read (h : LI f g) {c : Nat} (hc : c < 4) : LI (fS f 29 c (nI (g 5))) g := by
  have hg5 := h.1.2.2.2.2.1
  obtain ⟨a1, b1, b2, b3, b4, b5, c1, c2, c3⟩ := h
  refine ⟨a1, b1, b2, b3, b4, fun q hq => ?_, c1, c2, c3⟩
  by_cases e : q = c
  · subst e
    rw [fS_i, cnt_nI (by omega)]
    exact ⟨rfl, Nat.le_refl _⟩
  · rw [fS_o e]; exact b5 q hq
/-- a notice more, no cancel -/
theorem li_notice (h : LI f g) (hx : ¬ x = 3) (hl : g 5 < 16) : LI (noAdd f g x y t a b) (gset g 5 (g 5 + 1)) := by
  obtain ⟨a1, b1, b2, b3, b4, b5, c1, c2, c3⟩ := h
  have e : ∀ k, k < 22 ∨ 26 < k → noAdd f g x y t a b k = f k := fun k hk => noAdd_ne hk
  have o : ∀ k j, ¬ j = g 5 → noAdd f g x y t a b k j = f k j := fun k j hj => noAdd_o hl hj
  have n22 : noAdd f g x y t a b 22 (g 5) = x := noAdd_22 hl
  have k3 : ∀ j, j < g 5 + 1 → noAdd f g x y t a b 22 j = 3 → j < g 5 := fun j hj h3 => by
    by_cases e9 : j = g 5
    · rw [e9, n22] at h3; exact absurd h3 hx
    · omega
  refine ⟨⟨a1.1, a1.2.1, a1.2.2.1, a1.2.2.2.1, by show g 5 + 1 ≤ 16; omega, a1.2.2.2.2.2⟩, fun j hj => ?_, fun i hi => ?_, fun a ha => ?_, fun j hj => ?_, fun c hc => ?_, fun j hj h3 => ?_, fun i hi => ?_, fun i hi => ?_⟩
  · unfold obB
    rw [e 10 (by omega), e 11 (by omega), e 12 (by omega)]
    exact b1 j hj
  · rw [e 17 (by omega), e 18 (by omega)]; exact b2 i hi
  · rw [e 15 (by omega)]; exact b3 a ha
  · rw [e 19 (by omega)]; exact b4 j hj
  · rw [e 29 (by omega)]; exact ⟨(b5 c hc).1, Nat.le_succ_of_le (b5 c hc).2⟩
  · have hj2 := k3 j hj h3
    rw [o 22 j (by omega)] at h3
    rw [o 25 j (by omega), o 23 j (by omega)]
    exact c1 j hj2 h3
  · have hi2 : g 5 + 1 ≤ i := hi
    rw [e 27 (by omega)]; exact c2 i (by omega)
  · have hi2 : i < g 5 + 1 := hi
    rw [e 27 (by omega)]
    by_cases e9 : i = g 5
    · subst e9
      refine Or.inl ⟨c2 _ (Nat.le_refl _), fun j hj h3 h4 => ?_⟩
      have hj2 := k3 j hj h3
      rw [o 22 j (by omega)] at h3
      rw [o 23 j (by omega)] at h4
      obtain ⟨q, hq, h5⟩ := (c1 j hj2 h3).2
      have h6 := (nI_eq (by omega) (by omega)).mp (h5.symm.trans h4)
      omega
    · rcases c3 i (by omega) with ⟨m1, m2⟩ | ⟨c, m1, m2, m3, m4, m5, m6⟩
      · refine Or.inl ⟨m1, fun j hj h3 => ?_⟩
        have hj2 := k3 j hj h3
        rw [o 22 j (by omega)] at h3
        rw [o 23 j (by omega)]
        exact m2 j hj2 h3
      · refine Or.inr ⟨c, Nat.lt_succ_of_lt m1, m2, m3, ?_, ?_, fun j hj h3 h4 => ?_⟩
        · rw [o 22 c (by omega)]; exact m4
        · rw [o 23 c (by omega)]; exact m5
        · have hj2 := k3 j hj h3
          rw [o 22 j (by omega)] at h3
          rw [o 23 j (by omega)] at h4
          rw [o 25 c (by omega), o 25 j (by omega)]
          exact m6 j hj2 h3 h4
/-- a cancel more, in the class -/
theorem li_cancel (h : LI f g) (hi : i < g 5) (hk : ¬ f 22 i = 3) (hl : g 5 < 16) : LI (caAdd f g (nI i) (nI (g 0))) (gset g 5 (g 5 + 1)) := by
  obtain ⟨a1, b1, b2, b3, b4, b5, c1, c2, c3⟩ := h
  have hm1 : ∀ c, c < 16 → ¬ nI c = -1 := fun c hc z => by
    have h9 := congrArg Int32.toInt z
    rw [znI (by omega)] at h9
    have : (-1 : Int32).toInt = -1 := by decide
    omega
  have e27 : noAdd f g 3 (nI i) 0 (nI (g 0)) (-1) 27 = f 27 := noAdd_ne (by omega)
  have hca : caAdd f g (nI i) (nI (g 0)) = if f 27 i = -1 then fS (noAdd f g 3 (nI i) 0 (nI (g 0)) (-1)) 27 i (nI (g 5)) else noAdd f g 3 (nI i) 0 (nI (g 0)) (-1) := by
    unfold caAdd
    rw [e27, rowAt_in (show i < 16 by omega) (by decide), rowPut_fS (k := 27) (show i < 16 by omega)]
  have e : ∀ k, (k < 22 ∨ 27 < k) → caAdd f g (nI i) (nI (g 0)) k = f k := fun k hk => by
    rw [hca]
    split
    · rw [fS_ne (by omega)]; exact noAdd_ne (by omega)
    · exact noAdd_ne (by omega)
  have o : ∀ k j, k < 27 → ¬ j = g 5 → caAdd f g (nI i) (nI (g 0)) k j = f k j := fun k j hk hj => by
    rw [hca]
    split
    · rw [fS_ne (by omega)]; exact noAdd_o hl hj
    · exact noAdd_o hl hj
  have nn : ∀ k, k < 27 → caAdd f g (nI i) (nI (g 0)) k (g 5) = noAdd f g 3 (nI i) 0 (nI (g 0)) (-1) k (g 5) := fun k hk => by
    rw [hca]
    split
    · rw [fS_ne (by omega)]
    · rfl
  have n22 : caAdd f g (nI i) (nI (g 0)) 22 (g 5) = 3 := (nn 22 (by decide)).trans (noAdd_22 hl)
  have n23 : caAdd f g (nI i) (nI (g 0)) 23 (g 5) = nI i := (nn 23 (by decide)).trans (noAdd_23 hl)
  have n25 : caAdd f g (nI i) (nI (g 0)) 25 (g 5) = nI (g 0) := (nn 25 (by decide)).trans (noAdd_25 hl)
  have o27 : ∀ q, ¬ q = i → caAdd f g (nI i) (nI (g 0)) 27 q = f 27 q := fun q hq => by
    rw [hca]
    split
    · rw [fS_o hq, e27]
    · rw [e27]
  refine ⟨⟨a1.1, a1.2.1, a1.2.2.1, a1.2.2.2.1, by show g 5 + 1 ≤ 16; omega, a1.2.2.2.2.2⟩, fun j hj => ?_, fun i hi => ?_, fun a ha => ?_, fun j hj => ?_, fun c hc => ?_, fun j hj h3 => ?_, fun q hq => ?_, fun q hq => ?_⟩
  · unfold obB
    rw [e 10 (by omega), e 11 (by omega), e 12 (by omega)]
    exact b1 j hj
  · rw [e 17 (by omega), e 18 (by omega)]; exact b2 i hi
  · rw [e 15 (by omega)]; exact b3 a ha
  · rw [e 19 (by omega)]; exact b4 j hj
  · rw [e 29 (by omega)]; exact ⟨(b5 c hc).1, Nat.le_succ_of_le (b5 c hc).2⟩
  · have hj2 : j < g 5 + 1 := hj
    by_cases e9 : j = g 5
    · subst e9
      rw [n25, n23]
      exact ⟨Int32.le_refl _, i, hi, rfl⟩
    · rw [o 22 j (by omega) e9] at h3
      rw [o 25 j (by omega) e9, o 23 j (by omega) e9]
      exact c1 j (by omega) h3
  · have hi2 : g 5 + 1 ≤ q := hq
    rw [o27 q (by omega)]; exact c2 q (by omega)
  · have hq2 : q < g 5 + 1 := hq
    by_cases e9 : q = g 5
    · subst e9
      rw [o27 _ (by omega)]
      refine Or.inl ⟨c2 _ (Nat.le_refl _), fun j hj h3 h4 => ?_⟩
      have hj2 : j < g 5 + 1 := hj
      by_cases e8 : j = g 5
      · subst e8
        rw [n23] at h4
        have h6 := (nI_eq (by omega) (by omega)).mp h4
        omega
      · rw [o 22 j (by omega) e8] at h3
        rw [o 23 j (by omega) e8] at h4
        obtain ⟨q, hq, h5⟩ := (c1 j (by omega) h3).2
        have h6 := (nI_eq (by omega) (by omega)).mp (h5.symm.trans h4)
        omega
    · have hq3 : q < g 5 := by omega
      by_cases e8 : q = i
      · subst e8
        rcases c3 q hq3 with ⟨m1, m2⟩ | ⟨c, m1, m2, m3, m4, m5, m6⟩
        · right
          have v27 : caAdd f g (nI q) (nI (g 0)) 27 q = nI (g 5) := by rw [hca, if_pos m1, fS_i]
          refine ⟨g 5, Nat.lt_succ_self _, hq3, v27, n22, n23, fun j hj h3 h4 => ?_⟩
          have hj2 : j < g 5 + 1 := hj
          by_cases e7 : j = g 5
          · subst e7; exact ⟨Nat.le_refl _, Int32.le_refl _⟩
          · rw [o 22 j (by omega) e7] at h3
            rw [o 23 j (by omega) e7] at h4
            exact absurd h4 (m2 j (by omega) h3)
        · right
          have hno : ¬ f 27 q = -1 := by rw [m3]; exact hm1 c (by omega)
          have v27 : caAdd f g (nI q) (nI (g 0)) 27 q = nI c := by rw [hca, if_neg hno, e27, m3]
          refine ⟨c, Nat.lt_succ_of_lt m1, m2, v27, ?_, ?_, fun j hj h3 h4 => ?_⟩
          · rw [o 22 c (by omega) (by omega)]; exact m4
          · rw [o 23 c (by omega) (by omega)]; exact m5
          · have hj2 : j < g 5 + 1 := hj
            by_cases e7 : j = g 5
            · subst e7
              rw [o 25 c (by omega) (by omega), n25]
              exact ⟨by omega, (c1 c m1 m4).1⟩
            · rw [o 22 j (by omega) e7] at h3
              rw [o 23 j (by omega) e7] at h4
              rw [o 25 c (by omega) (by omega), o 25 j (by omega) e7]
              exact m6 j (by omega) h3 h4
      · rw [o27 q e8]
        have hqi : ¬ nI i = nI q := fun z => e8 ((nI_eq (by omega) (by omega)).mp z).symm
        rcases c3 q hq3 with ⟨m1, m2⟩ | ⟨c, m1, m2, m3, m4, m5, m6⟩
        · refine Or.inl ⟨m1, fun j hj h3 h4 => ?_⟩
          have hj2 : j < g 5 + 1 := hj
          by_cases e7 : j = g 5
          · subst e7
            rw [n23] at h4; exact hqi h4
          · rw [o 22 j (by omega) e7] at h3
            rw [o 23 j (by omega) e7] at h4
            exact m2 j (by omega) h3 h4
        · refine Or.inr ⟨c, Nat.lt_succ_of_lt m1, m2, m3, ?_, ?_, fun j hj h3 h4 => ?_⟩
          · rw [o 22 c (by omega) (by omega)]; exact m4
          · rw [o 23 c (by omega) (by omega)]; exact m5
          · have hj2 : j < g 5 + 1 := hj
            by_cases e7 : j = g 5
            · subst e7
              rw [n23] at h4; exact absurd h4 hqi
            · rw [o 22 j (by omega) e7] at h3
              rw [o 23 j (by omega) e7] at h4
              rw [o 25 c (by omega) (by omega), o 25 j (by omega) e7]
              exact m6 j (by omega) h3 h4
theorem caAdd_ne {d : Int32} {v : Int32} {k : Nat} (hk : ¬ k = 27) : caAdd f g v d k = noAdd f g 3 v 0 d (-1) k := by
  unfold caAdd
  split
  · unfold rowPut
    rw [if_neg hk]
  · rfl
end QLI
