/-! ===== class and reference agree: the highest permit ===== -/
section EQT
variable {f : Nat → Nat → Int32} {g : Nat → Nat} {i : Nat}
theorem q_fin3 : ∀ k, k < 3 → ∀ a, a < 61 → ∀ b, b < 19 → (¬ 2 * inn (nI a) < iabs (nI b - 9) ∧ inn (nI a) < iabs (nI b - 9)) → 0 ≤ (maOf (nI k) * (2 * inn (nI a) - iabs (nI b - 9)) / inn (nI a)).toInt ∧ (maOf (nI k) * (2 * inn (nI a) - iabs (nI b - 9)) / inn (nI a)).toInt ≤ 90 := by decide +kernel
theorem hiW_good {x y kp : Int32} {p : Int32} : ∀ t, hiW f p x y kp t = 0 ∨ ¬ kp < nWB f p x y (nI (hiW f p x y kp t))
  | 0 => Or.inl rfl
  | t + 1 => by
    have e : hiW f p x y kp (t + 1) = if kp < nWB f p x y (nI (t + 1)) then hiW f p x y kp t else t + 1 := rfl
    rw [e]
    by_cases h : kp < nWB f p x y (nI (t + 1))
    · rw [if_pos h]; exact hiW_good t
    · rw [if_neg h]; exact Or.inr h
theorem hiW_max {x y kp : Int32} {p : Int32} : ∀ t, ∀ q, hiW f p x y kp t < q → q ≤ t → kp < nWB f p x y (nI q)
  | 0, q, h1, h2 => by omega
  | t + 1, q, h1, h2 => by
    have e : hiW f p x y kp (t + 1) = if kp < nWB f p x y (nI (t + 1)) then hiW f p x y kp t else t + 1 := rfl
    rw [e] at h1
    by_cases h : kp < nWB f p x y (nI (t + 1))
    · rw [if_pos h] at h1
      by_cases e2 : q = t + 1
      · rw [e2]; exact h
      · exact hiW_max t q h1 (by omega)
    · rw [if_neg h] at h1; omega
/-- a greater TOP never needs less -/
theorem need_mono (h : LI f g) (hi : i < g 3) {x y : Int32} (hx : -20 ≤ x.toInt ∧ x.toInt ≤ 60) (hy : -9 ≤ y.toInt ∧ y.toInt ≤ 9) {t u : Nat} (htu : t ≤ u) (hu : u ≤ 999) : (need x y (nI t) (mKi f i) (f 18 i)).toInt ≤ (need x y (nI u) (mKi f i) (f 18 i)).toInt := by
  obtain ⟨⟨k, hk, e⟩, -⟩ := li_pr h hi
  have ht1 := znI (n := t) (by omega)
  have hu1 := znI (n := u) (by omega)
  rw [e]
  by_cases h0 : 0 ≤ x.toInt
  · have hx0 : ¬ x < 0 := fun h => by have := zlt.mp h; rw [z0] at this; omega
    have bu := nd_b (s := f 18 i) (y := y) (t := nI u) hk ⟨h0, hx.2⟩ hy (by omega)
    obtain ⟨a, ha, rfl⟩ := xr ⟨h0, hx.2⟩
    obtain ⟨b, hb, rfl⟩ := yr hy
    have hm := ma_b k hk
    have hq := q_fin2 k hk a ha b hb
    by_cases hc : nI k = 0 ∧ ¬ nI a * f 18 i < nI t
    · have e1 : need (nI a) (nI b - 9) (nI t) (nI k) (f 18 i) = 0 := by
        unfold need
        rw [if_neg hx0, if_pos hc]
      rw [e1, z0]; exact bu.1
    · have hc2 : ¬ (nI k = 0 ∧ ¬ nI a * f 18 i < nI u) := fun z => hc ⟨z.1, fun y => z.2 (zlt.mpr (by have := zlt.mp y; omega))⟩
      unfold need
      rw [if_neg hx0, if_neg hc, if_neg hx0, if_neg hc2]
      by_cases h3 : 1 + nI a / 10 < iabs (nI b - 9)
      · have n3 : ¬ ¬ (1 + nI a / 10 < iabs (nI b - 9)) := fun z => z h3
        rw [if_neg n3, if_neg n3]
        by_cases h4 : ¬ 2 * (1 + nI a / 10) < iabs (nI b - 9) ∧ 0 < 1 + nI a / 10
        · have h5 : 0 ≤ (maOf (nI k) * (2 * (1 + nI a / 10) - iabs (nI b - 9)) / (1 + nI a / 10)).toInt ∧ (maOf (nI k) * (2 * (1 + nI a / 10) - iabs (nI b - 9)) / (1 + nI a / 10)).toInt ≤ 360 := hq h4.1
          rw [if_pos h4, if_pos h4, zadd (by omega) (by omega), zadd (by omega) (by omega)]
          omega
        · rw [if_neg h4, if_neg h4]; omega
      · rw [if_pos h3, if_pos h3, zadd (by omega) (by omega), zadd (by omega) (by omega)]
        omega
  · rw [nd_n ⟨hx.1, by omega⟩ (by omega), nd_n ⟨hx.1, by omega⟩ (by omega)]
    omega
theorem rUp_n0 : ∀ m, m < 1000 → (rUp (0 - nI m)).toInt ≤ 0 := by decide +kernel
theorem rUp_mono2 {a b : Int32} (ha : -999 ≤ a.toInt) (hb : b.toInt ≤ 2000) (h : a.toInt ≤ b.toInt) : (rUp a).toInt ≤ (rUp b).toInt ∨ (rUp a).toInt ≤ 0 := by
  by_cases h2 : 0 ≤ a.toInt
  · rw [rUp_i h2 (by omega), rUp_i (by omega) hb]
    exact Or.inl (by omega)
  · right
    obtain ⟨m, hm, rfl⟩ : ∃ m : Nat, m < 1000 ∧ a = 0 - nI m := ⟨(-a.toInt).toNat, by omega, Int32.toInt_inj.mp (by rw [zsub (by rw [z0]; omega) (by rw [znI (by omega)]; omega), znI (by omega), z0]; omega)⟩
    exact rUp_n0 m hm
/-- what is in force on a safe day is 200 or more -/
theorem sf_200 (h : LI f g) (hi : i < g 3) {D : Nat} (hs : sfD f g i D) : 200 ≤ (mIF f g i (nI D)).toInt := by
  have h1 := (mLH_b (d := nI D) (w := -1) h hi).1
  have h2 := zle.mp (Int32.not_lt.mp hs.2)
  omega
theorem hrm_mono (h : LI f g) (hi : i < g 3) {x y : Int32} (hx : -20 ≤ x.toInt ∧ x.toInt ≤ 60) (hy : -9 ≤ y.toInt ∧ y.toInt ≤ 9) {t u A B : Nat} (htu : t ≤ u) (hu : u ≤ 999) (hh : hrm f g i A B (nwb f i x y (nI t))) : hrm f g i A B (nwb f i x y (nI u)) := by
  obtain ⟨D, h1, h2, h3, h4, h5⟩ := hh
  refine ⟨D, h1, h2, h3, h4, ?_⟩
  have h6 := sf_200 h hi h4
  have h7 := zlt.mp h5
  have bt := need_b h hi hx hy (t := nI t) (by rw [znI (by omega)]; omega)
  have bu := need_b h hi hx hy (t := nI u) (by rw [znI (by omega)]; omega)
  rcases rUp_mono2 bt.1 (show _ ≤ 2000 by omega) (need_mono h hi hx hy htu hu) with h8 | h8
  · have h9 : (nwb f i x y (nI t)).toInt ≤ (nwb f i x y (nI u)).toInt := h8
    exact zlt.mpr (by omega)
  · exfalso
    have h9 : (nwb f i x y (nI t)).toInt ≤ 0 := h8
    omega
/-- a TOP of 0 does no harm -/
theorem hrm_0 (h : LI f g) (hi : i < g 3) {x y : Int32} (hx : -20 ≤ x.toInt ∧ x.toInt ≤ 60) (hy : -9 ≤ y.toInt ∧ y.toInt ≤ 9) {A B : Nat} : ¬ hrm f g i A B (nwb f i x y (nI 0)) := by
  rintro ⟨D, h1, h2, h3, h4, h5⟩
  have h6 := sf_200 h hi h4
  have h7 := zlt.mp h5
  obtain ⟨⟨k, hk, e⟩, -⟩ := li_pr h hi
  have hz : (nI 0).toInt = 0 := by decide
  have hn : (need x y (nI 0) (mKi f i) (f 18 i)).toInt ≤ 100 := by
    rw [e]
    by_cases h0 : 0 ≤ x.toInt
    · have hx0 : ¬ x < 0 := fun h => by have := zlt.mp h; rw [z0] at this; omega
      obtain ⟨a, ha, rfl⟩ := xr ⟨h0, hx.2⟩
      obtain ⟨b, hb, rfl⟩ := yr hy
      have hm := ma_b k hk
      have hq := q_fin3 k hk a ha b hb
      unfold need
      rw [if_neg hx0]
      by_cases hc : nI k = 0 ∧ ¬ nI a * f 18 i < nI 0
      · rw [if_pos hc, z0]; omega
      · rw [if_neg hc]
        by_cases h3 : 1 + nI a / 10 < iabs (nI b - 9)
        · have n3 : ¬ ¬ (1 + nI a / 10 < iabs (nI b - 9)) := fun z => z h3
          rw [if_neg n3]
          by_cases h4 : ¬ 2 * (1 + nI a / 10) < iabs (nI b - 9) ∧ 0 < 1 + nI a / 10
          · have h5 : 0 ≤ (maOf (nI k) * (2 * (1 + nI a / 10) - iabs (nI b - 9)) / (1 + nI a / 10)).toInt ∧ (maOf (nI k) * (2 * (1 + nI a / 10) - iabs (nI b - 9)) / (1 + nI a / 10)).toInt ≤ 90 := hq ⟨h4.1, h3⟩
            rw [if_pos h4, zadd (by omega) (by omega)]
            omega
          · rw [if_neg h4, z0]; omega
        · rw [if_pos h3, zadd (by omega) (by omega)]
          omega
    · rw [nd_n ⟨hx.1, by omega⟩ (by omega)]; omega
  have bt := need_b h hi hx hy (t := nI 0) (by omega)
  have h8 : (nwb f i x y (nI 0)).toInt ≤ 110 := by
    show (rUp (need x y (nI 0) (mKi f i) (f 18 i))).toInt ≤ 110
    by_cases h9 : 0 ≤ (need x y (nI 0) (mKi f i) (f 18 i)).toInt
    · rw [rUp_i h9 (by omega)]; omega
    · rcases rUp_mono2 (a := need x y (nI 0) (mKi f i) (f 18 i)) (b := 0) bt.1 (by decide) (by rw [z0]; omega) with h10 | h10
      · have : (rUp 0).toInt = 0 := by decide
        omega
      · omega
  omega
/-- a TOP with which nobody is harmed -/
def gd (f : Nat → Nat → Int32) (g : Nat → Nat) (x y : Int32) (A B t : Nat) : Prop := ∀ i, i < g 3 → ¬ hrm f g i A B (nwb f i x y (nI t))
theorem hiT_eq (h : LI f g) {x y a b : Int32} (hx : -20 ≤ x.toInt ∧ x.toInt ≤ 60) (hy : -9 ≤ y.toInt ∧ y.toInt ≤ 9) : gd f g x y (cnt a) (laOf b) (hiT f g x y a b) ∧ hiT f g x y a b ≤ 999 ∧ (hiT f g x y a b = 999 ∨ ¬ gd f g x y (cnt a) (laOf b) (hiT f g x y a b + 1)) := by
  have key : ∀ n, n ≤ g 3 → (∀ i, i < n → ¬ hrm f g i (cnt a) (laOf b) (nwb f i x y (nI (fl n (fun j t => hiW f (nI j) x y (hTK f g (nI j) (cnt a) (laOf b)) t) 999)))) ∧ ∀ q, fl n (fun j t => hiW f (nI j) x y (hTK f g (nI j) (cnt a) (laOf b)) t) 999 < q → q ≤ 999 → ∃ i, i < n ∧ hrm f g i (cnt a) (laOf b) (nwb f i x y (nI q)) := by
    intro n
    induction n with
    | zero =>
      intro _
      refine ⟨fun i hi => absurd hi (Nat.not_lt_zero i), fun q h1 h2 => ?_⟩
      have h3 : (999 : Nat) < q := h1
      omega
    | succ n ih =>
      intro hn
      obtain ⟨k1, k2⟩ := ih (by omega)
      have hle := hiF_le f g x y a b n
      have e : fl (n + 1) (fun j t => hiW f (nI j) x y (hTK f g (nI j) (cnt a) (laOf b)) t) 999 = hiW f (nI n) x y (hTK f g (nI n) (cnt a) (laOf b)) (fl n (fun j t => hiW f (nI j) x y (hTK f g (nI j) (cnt a) (laOf b)) t) 999) := rfl
      rw [e]
      generalize fl n (fun j t => hiW f (nI j) x y (hTK f g (nI j) (cnt a) (laOf b)) t) 999 = T at k1 k2 hle ⊢
      have hT := hiW_le f (nI n) x y (hTK f g (nI n) (cnt a) (laOf b)) T
      have hg := hiW_good (f := f) (p := nI n) (x := x) (y := y) (kp := hTK f g (nI n) (cnt a) (laOf b)) T
      have hm := hiW_max (f := f) (p := nI n) (x := x) (y := y) (kp := hTK f g (nI n) (cnt a) (laOf b)) T
      generalize hiW f (nI n) x y (hTK f g (nI n) (cnt a) (laOf b)) T = U at hT hg hm ⊢
      have e7 : ∀ q : Nat, q ≤ 999 → (hTK f g (nI n) (cnt a) (laOf b) < nwb f n x y (nI q) ↔ hrm f g n (cnt a) (laOf b) (nwb f n x y (nI q))) := fun q hq => hTK_eq h (by omega) (nwb_b h (by omega) hx hy (by rw [znI (by omega)]; omega))
      refine ⟨fun i hi hh => ?_, fun q h1 h2 => ?_⟩
      · by_cases e2 : i = n
        · subst e2
          rcases hg with hg | hg
          · subst hg
            exact hrm_0 h (by omega) hx hy hh
          · rw [nWB_eq h (by omega), e7 U (by omega)] at hg
            exact hg hh
        · exact k1 i (by omega) (hrm_mono h (by omega) hx hy hT hle hh)
      · by_cases h3 : q ≤ T
        · have h4 := hm q h1 h3
          rw [nWB_eq h (by omega), e7 q (by omega)] at h4
          exact ⟨n, by omega, h4⟩
        · obtain ⟨i, h4, h5⟩ := k2 q (by omega) h2
          exact ⟨i, by omega, h5⟩
  obtain ⟨k1, k2⟩ := key (g 3) (Nat.le_refl _)
  refine ⟨k1, hiF_le f g x y a b (g 3), ?_⟩
  have hle : hiT f g x y a b ≤ 999 := hiF_le f g x y a b (g 3)
  by_cases e : hiT f g x y a b = 999
  · exact Or.inl e
  · refine Or.inr fun z => ?_
    obtain ⟨i, h1, h2⟩ := k2 (hiT f g x y a b + 1) (Nat.lt_succ_self _) (by omega)
    exact z i h1 h2
end EQT
