/-! ===== class and reference agree: permits ===== -/
section EQH
variable {f : Nat → Nat → Int32} {g : Nat → Nat} {i : Nat}
/-- what an obstacle alone would need, rounded up -/
abbrev nwb (f : Nat → Nat → Int32) (i : Nat) (x y t : Int32) : Int32 := rUp (need x y t (mKi f i) (f 18 i))
theorem nWB_eq (h : LI f g) (hi : i < g 3) {x y t : Int32} : nWB f (nI i) x y t = nwb f i x y t := by
  have hg3 := h.1.2.2.1
  unfold nWB
  rw [ki_eq h hi, rowAt_in (show i < 4 by omega) (by decide)]
/-- a day on which a room's word is safe, without anything more -/
def sfD (f : Nat → Nat → Int32) (g : Nat → Nat) (i D : Nat) : Prop := ¬ mIF f g i (nI D) = -1 ∧ ¬ mIF f g i (nI D) < mLH f g i (nI D) (-1)
/-- harm: on some day from A to B, no earlier than now, what is in force is safe, and below v -/
def hrm (f : Nat → Nat → Int32) (g : Nat → Nat) (i A B : Nat) (v : Int32) : Prop := ∃ D, A ≤ D ∧ D ≤ B ∧ g 0 ≤ D ∧ sfD f g i D ∧ mIF f g i (nI D) < v
theorem hTK_fold (h : LI f g) (hi : i < g 3) {v : Int32} (hv : v.toInt ≤ 1000000) {s : Nat} : ∀ n, fl n (fun j kp => if ¬ hIF f g (nI i) (nI (s + j)) = -1 ∧ hIF f g (nI i) (nI (s + j)) < kp ∧ ¬ hIF f g (nI i) (nI (s + j)) < lH f g (nI i) (nI (s + j)) (-1) then hIF f g (nI i) (nI (s + j)) else kp) 1000000 < v ↔ ∃ j, j < n ∧ sfD f g i (s + j) ∧ mIF f g i (nI (s + j)) < v
  | 0 => by
    refine ⟨fun z => ?_, fun ⟨j, z, _⟩ => absurd z (Nat.not_lt_zero j)⟩
    have h1 := zlt.mp (show (1000000 : Int32) < v from z)
    have h2 : (1000000 : Int32).toInt = 1000000 := by decide
    omega
  | n + 1 => by
    have ih := hTK_fold h hi (v := v) hv (s := s) n
    have e : fl (n + 1) (fun j kp => if ¬ hIF f g (nI i) (nI (s + j)) = -1 ∧ hIF f g (nI i) (nI (s + j)) < kp ∧ ¬ hIF f g (nI i) (nI (s + j)) < lH f g (nI i) (nI (s + j)) (-1) then hIF f g (nI i) (nI (s + j)) else kp) 1000000 = (fun kp : Int32 => if ¬ hIF f g (nI i) (nI (s + n)) = -1 ∧ hIF f g (nI i) (nI (s + n)) < kp ∧ ¬ hIF f g (nI i) (nI (s + n)) < lH f g (nI i) (nI (s + n)) (-1) then hIF f g (nI i) (nI (s + n)) else kp) (fl n (fun j kp => if ¬ hIF f g (nI i) (nI (s + j)) = -1 ∧ hIF f g (nI i) (nI (s + j)) < kp ∧ ¬ hIF f g (nI i) (nI (s + j)) < lH f g (nI i) (nI (s + j)) (-1) then hIF f g (nI i) (nI (s + j)) else kp) 1000000) := rfl
    rw [e]
    generalize fl n (fun j kp => if ¬ hIF f g (nI i) (nI (s + j)) = -1 ∧ hIF f g (nI i) (nI (s + j)) < kp ∧ ¬ hIF f g (nI i) (nI (s + j)) < lH f g (nI i) (nI (s + j)) (-1) then hIF f g (nI i) (nI (s + j)) else kp) 1000000 = kp at ih ⊢
    simp only [hIF_eq h hi, lH_eq h hi]
    have hstep : (∃ j, j < n + 1 ∧ sfD f g i (s + j) ∧ mIF f g i (nI (s + j)) < v) ↔ kp < v ∨ (sfD f g i (s + n) ∧ mIF f g i (nI (s + n)) < v) := by
      rw [ih]
      constructor
      · rintro ⟨j, h1, h2⟩
        by_cases e : j = n
        · subst e; exact Or.inr h2
        · exact Or.inl ⟨j, by omega, h2⟩
      · rintro (⟨j, h1, h2⟩ | h2)
        · exact ⟨j, by omega, h2⟩
        · exact ⟨n, by omega, h2⟩
    rw [hstep]
    unfold sfD
    by_cases h1 : ¬ mIF f g i (nI (s + n)) = -1 ∧ mIF f g i (nI (s + n)) < kp ∧ ¬ mIF f g i (nI (s + n)) < mLH f g i (nI (s + n)) (-1)
    · rw [if_pos h1]
      refine ⟨fun z => Or.inr ⟨⟨h1.1, h1.2.2⟩, z⟩, fun z => z.elim (fun z => ?_) fun z => z.2⟩
      have a1 := zlt.mp h1.2.1
      have a2 := zlt.mp z
      exact zlt.mpr (by omega)
    · rw [if_neg h1]
      refine ⟨Or.inl, fun z => z.elim id fun z => ?_⟩
      have a1 : ¬ mIF f g i (nI (s + n)) < kp := fun y => h1 ⟨z.1.1, y, z.1.2⟩
      have a2 := zle.mp (Int32.not_lt.mp a1)
      have a3 := zlt.mp z.2
      exact zlt.mpr (by omega)
theorem hTK_eq (h : LI f g) (hi : i < g 3) {v : Int32} (hv : v.toInt ≤ 1000000) {A B : Nat} : hTK f g (nI i) A B < v ↔ hrm f g i A B v := by
  unfold hTK
  rw [hTK_fold h hi hv]
  unfold hrm
  constructor
  · rintro ⟨j, h1, h2, h3⟩
    exact ⟨max A (g 0) + j, by omega, by omega, by omega, h2, h3⟩
  · rintro ⟨D, h1, h2, h3, h4, h5⟩
    refine ⟨D - max A (g 0), by omega, ?_, ?_⟩ <;> rw [show max A (g 0) + (D - max A (g 0)) = D by omega]
    · exact h4
    · exact h5
/-! with one obstacle more -/
theorem need_b (h : LI f g) (hi : i < g 3) {x y t : Int32} (hx : -20 ≤ x.toInt ∧ x.toInt ≤ 60) (hy : -9 ≤ y.toInt ∧ y.toInt ≤ 9) (ht : 0 ≤ t.toInt ∧ t.toInt ≤ 999) : -999 ≤ (need x y t (mKi f i) (f 18 i)).toInt ∧ (need x y t (mKi f i) (f 18 i)).toInt ≤ 1400 := by
  obtain ⟨⟨k, hk, e⟩, -⟩ := li_pr h hi
  by_cases h0 : 0 ≤ x.toInt
  · have := nd_b (s := f 18 i) (y := y) hk ⟨h0, hx.2⟩ hy ht
    rw [e]; omega
  · rw [nd_n ⟨hx.1, by omega⟩ ht]; omega
/-! the reference's harm -/
theorem sh_a : ∀ i, i < 4 → ∀ m, m < 2 ^ i → (nI m >>> (nI i &&& 31)) &&& 1 = 0 ∧ ¬ ((nI m ||| (1 <<< (nI i &&& 31))) >>> (nI i &&& 31)) &&& 1 = 0 ∧ nI m ||| (1 <<< (nI i &&& 31)) = nI (m + 2 ^ i) := by decide +kernel
theorem nwb_b (h : LI f g) (hi : i < g 3) {x y t : Int32} (hx : -20 ≤ x.toInt ∧ x.toInt ≤ 60) (hy : -9 ≤ y.toInt ∧ y.toInt ≤ 9) (ht : 0 ≤ t.toInt ∧ t.toInt ≤ 999) : (nwb f i x y t).toInt ≤ 1000000 := by
  have b := need_b h hi hx hy ht
  have q0 : (0 : Int32).toInt = 0 := by decide
  have q1 : (rUp 0).toInt = 0 := by decide
  show (rUp (need x y t (mKi f i) (f 18 i))).toInt ≤ 1000000
  by_cases h9 : 0 ≤ (need x y t (mKi f i) (f 18 i)).toInt
  · rw [rUp_i h9 (by omega)]; omega
  · rcases rUp_mono (a := need x y t (mKi f i) (f 18 i)) (b := 0) b.1 (by rw [q0]; omega) (by rw [q0]; omega) (by rw [q0]; omega) with h10 | h10
    · omega
    · omega
end EQH
