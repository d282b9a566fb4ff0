/-! ===== class and reference agree: numbers ===== -/
theorem zb {z : Int} (h1 : -2147483648 ≤ z) (h2 : z < 2147483648) : z.bmod (2 ^ 32) = z := Int.bmod_eq_of_le (by omega) (by omega)
theorem zadd {a b : Int32} (h1 : -1000000 ≤ a.toInt ∧ a.toInt ≤ 1000000) (h2 : -1000000 ≤ b.toInt ∧ b.toInt ≤ 1000000) : (a + b).toInt = a.toInt + b.toInt := by
  rw [Int32.toInt_add, zb (by omega) (by omega)]
theorem zsub {a b : Int32} (h1 : -1000000 ≤ a.toInt ∧ a.toInt ≤ 1000000) (h2 : -1000000 ≤ b.toInt ∧ b.toInt ≤ 1000000) : (a - b).toInt = a.toInt - b.toInt := by
  rw [Int32.toInt_sub, zb (by omega) (by omega)]
theorem zmul {a b : Int32} (h1 : -1000000 ≤ a.toInt * b.toInt ∧ a.toInt * b.toInt ≤ 1000000) : (a * b).toInt = a.toInt * b.toInt := by
  rw [Int32.toInt_mul, zb (by omega) (by omega)]
theorem zmax (a b : Int32) : (imax a b).toInt = max a.toInt b.toInt := by
  unfold imax
  by_cases h : a < b
  · rw [if_pos h]
    have := Int32.lt_iff_toInt_lt.mp h
    omega
  · rw [if_neg h]
    have := Int32.le_iff_toInt_le.mp (Int32.not_lt.mp h)
    omega
theorem zlt {a b : Int32} : a < b ↔ a.toInt < b.toInt := Int32.lt_iff_toInt_lt
theorem zle {a b : Int32} : a ≤ b ↔ a.toInt ≤ b.toInt := Int32.le_iff_toInt_le
theorem z0 : (0 : Int32).toInt = 0 := by decide
theorem z30 : (30 : Int32).toInt = 30 := by decide
theorem z25 : (25 : Int32).toInt = 25 := by decide
theorem znI {n : Nat} (h : n < 65536) : (nI n).toInt = (n : Int) := nI_toInt (by omega)
theorem fl_cg {σ : Type} {F F' : Nat → σ → σ} {s : σ} : ∀ {n : Nat}, (∀ j, j < n → ∀ z, F j z = F' j z) → fl n F s = fl n F' s
  | 0, _ => rfl
  | n + 1, h => by
    show F n (fl n F s) = F' n (fl n F' s)
    rw [fl_cg (fun j hj z => h j (Nat.lt_succ_of_lt hj) z), h n (Nat.lt_succ_self n)]
/-- x and y as places of small rows -/
theorem xr {x : Int32} (h : 0 ≤ x.toInt ∧ x.toInt ≤ 60) : ∃ a, a < 61 ∧ x = nI a := by
  refine ⟨x.toInt.toNat, by omega, Int32.toInt_inj.mp ?_⟩
  rw [znI (by omega)]; omega
theorem yr {y : Int32} (h : -9 ≤ y.toInt ∧ y.toInt ≤ 9) : ∃ b, b < 19 ∧ y = nI b - 9 := by
  refine ⟨(y.toInt + 9).toNat, by omega, Int32.toInt_inj.mp ?_⟩
  have e : (9 : Int32).toInt = 9 := by decide
  rw [zsub (by rw [znI (by omega)]; omega) (by rw [e]; omega), znI (by omega), e]; omega
abbrev inn (x : Int32) : Int32 := 1 + x / 10
theorem q_fin : ∀ a, a < 61 → ∀ b, b < 19 → 0 < inn (nI a) ∧ (2 * inn (nI a) < iabs (nI b - 9) → inn (nI a) < iabs (nI b - 9)) := by decide +kernel
theorem q_fin2 : ∀ k, k < 3 → ∀ a, a < 61 → ∀ b, b < 19 → ¬ 2 * inn (nI a) < iabs (nI b - 9) → 0 ≤ (maOf (nI k) * (2 * inn (nI a) - iabs (nI b - 9)) / inn (nI a)).toInt ∧ (maOf (nI k) * (2 * inn (nI a) - iabs (nI b - 9)) / inn (nI a)).toInt ≤ 360 := by decide +kernel
theorem ma_b : ∀ k, k < 3 → 30 ≤ (maOf (nI k)).toInt ∧ (maOf (nI k)).toInt ≤ 90 := by decide +kernel
theorem ma_e : ∀ k, k < 3 → margins k = maOf (nI k) ∧ bases k = baOf (nI k) ∧ 200 ≤ (baOf (nI k)).toInt ∧ (baOf (nI k)).toInt ≤ 300 := by decide +kernel
/-- what an obstacle with an X of 0 or more needs, in both -/
theorem nd_eq {x y t s : Int32} {k : Nat} (hk : k < 3) (hx : 0 ≤ x.toInt ∧ x.toInt ≤ 60) (hy : -9 ≤ y.toInt ∧ y.toInt ≤ 9) (hs : ¬ s = -1) : need x y t (nI k) s = mNd x y t (margins k) (if nI k = 0 then s else -1) := by
  have hx0 : ¬ x < 0 := fun h => by have := zlt.mp h; rw [z0] at this; omega
  obtain ⟨a, ha, rfl⟩ := xr hx
  obtain ⟨b, hb, rfl⟩ := yr hy
  obtain ⟨q1, q2⟩ := q_fin a ha b hb
  rw [(ma_e k hk).1]
  unfold need mNd
  rw [if_neg hx0]
  have q1' : 0 < 1 + nI a / 10 := q1
  have hm0 : ¬ ¬ (-1 : Int32) = -1 := fun z => z rfl
  by_cases h2 : 2 * (1 + nI a / 10) < iabs (nI b - 9)
  · have h3 : 1 + nI a / 10 < iabs (nI b - 9) := q2 h2
    have e3 : ¬ ¬ (1 + nI a / 10 < iabs (nI b - 9)) := fun z => z h3
    have e4 : ¬ (¬ 2 * (1 + nI a / 10) < iabs (nI b - 9) ∧ 0 < 1 + nI a / 10) := fun z => z.1 h2
    rw [if_pos h2]
    by_cases hc : nI k = 0 ∧ ¬ nI a * s < t
    · rw [if_pos hc]
    · rw [if_neg hc, if_neg e3, if_neg e4]
  · have e4 : ∀ z : 1 + nI a / 10 < iabs (nI b - 9), ¬ 2 * (1 + nI a / 10) < iabs (nI b - 9) ∧ 0 < 1 + nI a / 10 := fun _ => ⟨h2, q1'⟩
    rw [if_neg h2]
    have n3 : ∀ _ : 1 + nI a / 10 < iabs (nI b - 9), ¬ ¬ (1 + nI a / 10 < iabs (nI b - 9)) := fun z y => y z
    by_cases hk0 : nI k = 0
    · rw [if_pos hk0]
      by_cases ht : nI a * s < t
      · have e1 : ¬ (nI k = 0 ∧ ¬ nI a * s < t) := fun z => z.2 ht
        have e2 : ¬ (¬ s = -1 ∧ ¬ nI a * s < t) := fun z => z.2 ht
        rw [if_neg e1, if_neg e2]
        by_cases h3 : 1 + nI a / 10 < iabs (nI b - 9)
        · rw [if_neg (n3 h3), if_neg (n3 h3), if_pos (e4 h3)]
        · rw [if_pos h3, if_pos h3]
      · rw [if_pos ⟨hk0, ht⟩, if_pos ⟨hs, ht⟩]
    · have e1 : ¬ (nI k = 0 ∧ ¬ nI a * s < t) := fun z => hk0 z.1
      have e2 : ¬ (¬ (-1 : Int32) = -1 ∧ ¬ nI a * (-1) < t) := fun z => z.1 rfl
      rw [if_neg hk0, if_neg e1, if_neg e2]
      by_cases h3 : 1 + nI a / 10 < iabs (nI b - 9)
      · rw [if_neg (n3 h3), if_neg (n3 h3), if_pos (e4 h3)]
      · rw [if_pos h3, if_pos h3]
theorem nd_b {x y t s : Int32} {k : Nat} (hk : k < 3) (hx : 0 ≤ x.toInt ∧ x.toInt ≤ 60) (hy : -9 ≤ y.toInt ∧ y.toInt ≤ 9) (ht : 0 ≤ t.toInt ∧ t.toInt ≤ 999) : 0 ≤ (need x y t (nI k) s).toInt ∧ (need x y t (nI k) s).toInt ≤ 1400 := by
  have hx0 : ¬ x < 0 := fun h => by have := zlt.mp h; rw [z0] at this; omega
  obtain ⟨a, ha, rfl⟩ := xr hx
  obtain ⟨b, hb, rfl⟩ := yr hy
  have hm := ma_b k hk
  have hq := q_fin2 k hk a ha b hb
  unfold need
  rw [if_neg hx0]
  by_cases hc : nI k = 0 ∧ ¬ nI a * s < t
  · rw [if_pos hc, z0]; omega
  · rw [if_neg hc]
    by_cases h3 : 1 + nI a / 10 < iabs (nI b - 9)
    · rw [if_neg (fun z => z h3)]
      by_cases h4 : ¬ 2 * (1 + nI a / 10) < iabs (nI b - 9) ∧ 0 < 1 + nI a / 10
      · have h5 : 0 ≤ (maOf (nI k) * (2 * (1 + nI a / 10) - iabs (nI b - 9)) / (1 + nI a / 10)).toInt ∧ (maOf (nI k) * (2 * (1 + nI a / 10) - iabs (nI b - 9)) / (1 + nI a / 10)).toInt ≤ 360 := hq h4.1
        rw [if_pos h4, zadd (by omega) (by omega)]
        omega
      · rw [if_neg h4, z0]; omega
    · rw [if_pos h3, zadd (by omega) (by omega)]
      omega
theorem nd_n {x y t s k : Int32} (hx : -20 ≤ x.toInt ∧ x.toInt < 0) (ht : 0 ≤ t.toInt ∧ t.toInt ≤ 999) : (need x y t k s).toInt = t.toInt + 30 + 25 * x.toInt := by
  have hx0 : x < 0 := zlt.mpr (by rw [z0]; omega)
  unfold need
  have h1 : (25 * x).toInt = 25 * x.toInt := by rw [zmul (by rw [z25]; omega), z25]
  have h2 : (t + 30).toInt = t.toInt + 30 := by rw [zadd (by omega) (by rw [z30]; omega), z30]
  rw [if_pos hx0, zadd (by rw [h2]; omega) (by rw [h1]; omega), h1, h2]
theorem mab {t x h : Int32} (hx : -20 ≤ x.toInt ∧ x.toInt < 0) (ht : 0 ≤ t.toInt ∧ t.toInt ≤ 999) (hh : 0 ≤ h.toInt ∧ h.toInt ≤ 2000) : (mAb t x h).toInt = t.toInt + 30 + 25 * x.toInt - h.toInt := by
  unfold mAb
  have h1 : (25 * x).toInt = 25 * x.toInt := by rw [zmul (by rw [z25]; omega), z25]
  have h2 : (h - 30).toInt = h.toInt - 30 := by rw [zsub (by omega) (by rw [z30]; omega), z30]
  have h3 : (h - 30 - 25 * x).toInt = h.toInt - 30 - 25 * x.toInt := by rw [zsub (by rw [h2]; omega) (by rw [h1]; omega), h1, h2]
  rw [zsub (by omega) (by rw [h3]; omega), h3]
  omega
/-! the greatest need, in one fold and in two -/
def cF (fx : Nat → Nat → Int32) (f : Nat → Nat → Int32) (i n : Nat) (P : Nat → Bool) : Int32 := fl n (fun j h => if P j = true then imax h (need (fx 10 j) (fx 11 j) (fx 12 j) (mKi f i) (f 18 i)) else h) (baOf (mKi f i))
def cC (fx : Nat → Nat → Int32) (n : Nat) (P : Nat → Bool) : Int := fl n (fun j c => if P j = true ∧ fx 10 j < 0 then max c ((fx 12 j).toInt + 30 + 25 * (fx 10 j).toInt) else c) (-10000)
def obB (fx : Nat → Nat → Int32) (j : Nat) : Prop := (-20 ≤ (fx 10 j).toInt ∧ (fx 10 j).toInt ≤ 60) ∧ (-9 ≤ (fx 11 j).toInt ∧ (fx 11 j).toInt ≤ 9) ∧ (0 ≤ (fx 12 j).toInt ∧ (fx 12 j).toInt ≤ 999)
def prB (f : Nat → Nat → Int32) (i : Nat) : Prop := (∃ k, k < 3 ∧ mKi f i = nI k) ∧ ¬ f 18 i = -1
theorem d_all {fx f : Nat → Nat → Int32} {i : Nat} {P : Nat → Bool} (hp : prB f i) : ∀ n, (∀ j, j < n → P j = true → obB fx j) → (cF fx f i n P).toInt = max (dmH fx f i n P).toInt (cC fx n P) ∧ (200 ≤ (dmH fx f i n P).toInt ∧ (dmH fx f i n P).toInt ≤ 1400) ∧ cC fx n P ≤ 1100 ∧ ∀ h1 : Int32, 0 ≤ h1.toInt → h1.toInt ≤ 2000 → (dmA fx n P h1).toInt = max 0 (cC fx n P - h1.toInt) := by
  obtain ⟨⟨k, hk, hki⟩, hs⟩ := hp
  have hc : cnt (mKi f i) = k := by rw [hki, cnt_nI (by omega)]
  have hma := ma_e k hk
  intro n
  induction n with
  | zero =>
    intro _
    have e1 : cF fx f i 0 P = baOf (mKi f i) := rfl
    have e2 : dmH fx f i 0 P = bases (cnt (mKi f i)) := rfl
    have e3 : cC fx 0 P = -10000 := rfl
    have e4 : ∀ h1, dmA fx 0 P h1 = 0 := fun _ => rfl
    rw [e1, e2, e3, hc, hki, hma.2.1]
    refine ⟨by omega, by omega, by omega, fun h1 h2 h3 => ?_⟩
    rw [e4, z0]; omega
  | succ n ih =>
    intro hO
    obtain ⟨i1, i2, i3, i4⟩ := ih fun j hj => hO j (Nat.lt_succ_of_lt hj)
    have e1 : cF fx f i (n + 1) P = if P n = true then imax (cF fx f i n P) (need (fx 10 n) (fx 11 n) (fx 12 n) (mKi f i) (f 18 i)) else cF fx f i n P := rfl
    have e2 : dmH fx f i (n + 1) P = if P n = true ∧ ¬ fx 10 n < 0 then imax (dmH fx f i n P) (mNd (fx 10 n) (fx 11 n) (fx 12 n) (mMg f i) (mSl f i)) else dmH fx f i n P := rfl
    have e3 : cC fx (n + 1) P = if P n = true ∧ fx 10 n < 0 then max (cC fx n P) ((fx 12 n).toInt + 30 + 25 * (fx 10 n).toInt) else cC fx n P := rfl
    have e4 : ∀ h1, dmA fx (n + 1) P h1 = if P n = true ∧ fx 10 n < 0 then imax (dmA fx n P h1) (mAb (fx 12 n) (fx 10 n) h1) else dmA fx n P h1 := fun _ => rfl
    by_cases hP : P n = true
    · obtain ⟨b1, b2, b3⟩ := hO n (Nat.lt_succ_self n) hP
      by_cases hx : fx 10 n < 0
      · have hx2 := zlt.mp hx
        rw [z0] at hx2
        rw [e1, if_pos hP, e2, if_neg (fun z => z.2 hx), e3, if_pos ⟨hP, hx⟩, zmax, i1, nd_n ⟨b1.1, hx2⟩ b3]
        refine ⟨by omega, i2, by omega, fun h1 h2 h3 => ?_⟩
        rw [e4, if_pos ⟨hP, hx⟩, zmax, i4 h1 h2 h3, mab ⟨b1.1, hx2⟩ b3 ⟨h2, h3⟩]
        omega
      · have hx2 : 0 ≤ (fx 10 n).toInt := by
          have := zle.mp (Int32.not_lt.mp hx)
          rw [z0] at this; exact this
        have e5 : mNd (fx 10 n) (fx 11 n) (fx 12 n) (mMg f i) (mSl f i) = need (fx 10 n) (fx 11 n) (fx 12 n) (mKi f i) (f 18 i) := by
          unfold mMg mSl
          rw [hc, hki]
          exact (nd_eq hk ⟨hx2, b1.2⟩ b2 hs).symm
        have b5 := nd_b (s := f 18 i) (y := fx 11 n) hk ⟨hx2, b1.2⟩ b2 b3
        rw [← hki] at b5
        rw [e1, if_pos hP, e2, if_pos ⟨hP, hx⟩, e3, if_neg (fun z => hx z.2), zmax, zmax, i1, e5]
        refine ⟨by omega, by omega, i3, fun h1 h2 h3 => ?_⟩
        rw [e4, if_neg (fun z => hx z.2)]
        exact i4 h1 h2 h3
    · rw [e1, if_neg hP, e2, if_neg (fun z => hP z.1), e3, if_neg (fun z => hP z.1)]
      refine ⟨i1, i2, i3, fun h1 h2 h3 => ?_⟩
      rw [e4, if_neg (fun z => hP z.1)]
      exact i4 h1 h2 h3
/-- what is demanded, rounded up, is the greatest need rounded up -/
theorem dmd_eq {fx f : Nat → Nat → Int32} {i n : Nat} {P : Nat → Bool} (hp : prB f i) (hO : ∀ j, j < n → P j = true → obB fx j) : dmd fx f i n P = rUp (cF fx f i n P) := by
  obtain ⟨h1, h2, h3, h4⟩ := d_all hp n hO
  unfold dmd
  refine congrArg rUp (Int32.toInt_inj.mp ?_)
  have h5 := h4 (dmH fx f i n P) (by omega) (by omega)
  rw [zadd (by omega) (by rw [h5]; omega), h5, h1]
  omega
theorem cF_b {fx f : Nat → Nat → Int32} {i n : Nat} {P : Nat → Bool} (hp : prB f i) (hO : ∀ j, j < n → P j = true → obB fx j) : 200 ≤ (cF fx f i n P).toInt ∧ (cF fx f i n P).toInt ≤ 1400 := by
  obtain ⟨h1, h2, h3, -⟩ := d_all hp n hO
  omega
theorem rUp_i {h : Int32} (h0 : 0 ≤ h.toInt) (h1 : h.toInt ≤ 2000) : (rUp h).toInt = (h.toInt + 9) / 10 * 10 := by
  obtain ⟨n, hn, rfl⟩ : ∃ n : Nat, n ≤ 2000 ∧ h = nI n := ⟨h.toInt.toNat, by omega, Int32.toInt_inj.mp (by rw [znI (by omega)]; omega)⟩
  have e : rUp (nI n) = nI ((n + 9) / 10 * 10) := by
    unfold rUp
    show (nI n + nI 9) / nI 10 * nI 10 = _
    rw [nI_add, pk_div (by omega) (by decide) (by decide), pk_mul]
  rw [e, znI (by omega), znI (by omega)]
  omega
theorem rUp_n : ∀ m, m < 1000 → (rUp (0 - nI m)).toInt ≤ 9 := by decide +kernel
theorem rUp_mono {a b : Int32} (ha : -999 ≤ a.toInt) (hb : b.toInt ≤ 2000) (h0 : 0 ≤ b.toInt) (h : a.toInt ≤ b.toInt) : (rUp a).toInt ≤ (rUp b).toInt ∨ (a.toInt < 0 ∧ (rUp a).toInt ≤ 9) := by
  by_cases h2 : 0 ≤ a.toInt
  · rw [rUp_i h2 (by omega), rUp_i h0 hb]
    exact Or.inl (by omega)
  · right
    obtain ⟨m, hm, rfl⟩ : ∃ m : Nat, m < 1000 ∧ a = 0 - nI m := ⟨(-a.toInt).toNat, by omega, Int32.toInt_inj.mp (by rw [zsub (by rw [z0]; omega) (by rw [znI (by omega)]; omega), znI (by omega), z0]; omega)⟩
    exact ⟨by omega, rUp_n m hm⟩
