/-! ===== class and reference agree: permits ===== -/
section EQH
variable {f : Nat → Nat → Int32} {g : Nat → Nat} {i : Nat}
/-- what an obstacle alone would need, rounded up -/
abbrev nwb (f : Nat → Nat → Int32) (i : Nat) (x y t : Int32) : Int32 := rUp (need x y t (mKi f i) (f 18 i))
theorem nWB_eq (h : LI f g) (hi : i < g 3) {x y t : Int32} : nWB f (nI i) x y t = nwb f i x y t := by
  have hg3 := h.1.2.2.1
  unfold nWB
  rw [ki_eq h hi, rowAt_in (show i < 4 by omega) (by decide)]
/-- a day on which a room's word is safe, without anything more -/
def sfD (f : Nat → Nat → Int32) (g : Nat → Nat) (i D : Nat) : Prop := ¬ mIF f g i (nI D) = -1 ∧ ¬ mIF f g i (nI D) < mLH f g i (nI D) (-1)
/-- harm: on some day from A to B, no earlier than now, what is in force is safe, and below v -/
def hrm (f : Nat → Nat → Int32) (g : Nat → Nat) (i A B : Nat) (v : Int32) : Prop := ∃ D, A ≤ D ∧ D ≤ B ∧ g 0 ≤ D ∧ sfD f g i D ∧ mIF f g i (nI D) < v
theorem hTK_fold (h : LI f g) (hi : i < g 3) {v : Int32} (hv : v.toInt ≤ 1000000) {s : Nat} : ∀ n, fl n (fun j kp => if ¬ hIF f g (nI i) (nI (s + j)) = -1 ∧ hIF f g (nI i) (nI (s + j)) < kp ∧ ¬ hIF f g (nI i) (nI (s + j)) < lH f g (nI i) (nI (s + j)) (-1) then hIF f g (nI i) (nI (s + j)) else kp) 1000000 < v ↔ ∃ j, j < n ∧ sfD f g i (s + j) ∧ mIF f g i (nI (s + j)) < v
  | 0 => by
    refine ⟨fun z => ?_, fun ⟨j, z, _⟩ => absurd z (Nat.not_lt_zero j)⟩
    have h1 := zlt.mp (show (1000000 : Int32) < v from z)
    have h2 : (1000000 : Int32).toInt = 1000000 := by decide
    omega
  | n + 1 => by
    have ih := hTK_fold h hi (v := v) hv (s := s) n
    have e : fl (n + 1) (fun j kp => if ¬ hIF f g (nI i) (nI (s + j)) = -1 ∧ hIF f g (nI i) (nI (s + j)) < kp ∧ ¬ hIF f g (nI i) (nI (s + j)) < lH f g (nI i) (nI (s + j)) (-1) then hIF f g (nI i) (nI (s + j)) else kp) 1000000 = (fun kp : Int32 => if ¬ hIF f g (nI i) (nI (s + n)) = -1 ∧ hIF f g (nI i) (nI (s + n)) < kp ∧ ¬ hIF f g (nI i) (nI (s + n)) < lH f g (nI i) (nI (s + n)) (-1) then hIF f g (nI i) (nI (s + n)) else kp) (fl n (fun j kp => if ¬ hIF f g (nI i) (nI (s + j)) = -1 ∧ hIF f g (nI i) (nI (s + j)) < kp ∧ ¬ hIF f g (nI i) (nI (s + j)) < lH f g (nI i) (nI (s + j)) (-1) then hIF f g (nI i) (nI (s + j)) else kp) 1000000) := rfl
    rw [e]
    generalize fl n (fun j kp => if ¬ hIF f g (nI i) (nI (s + j)) = -1 ∧ hIF f g (nI i) (nI (s + j)) < kp ∧ ¬ hIF f g (nI i) (nI (s + j)) < lH f g (nI i) (nI (s + j)) (-1) then hIF f g (nI i) (nI (s + j)) else kp) 1000000 = kp at ih ⊢
    simp only [hIF_eq h hi, lH_eq h hi]
    have hstep : (∃ j, j < n + 1 ∧ sfD f g i (s + j) ∧ mIF f g i (nI (s + j)) < v) ↔ kp < v ∨ (sfD f g i (s + n) ∧ mIF f g i (nI (s + n)) < v) := by
      rw [ih]
      constructor
      · rintro ⟨j, h1, h2⟩
        by_cases e : j = n
        · subst e; exact Or.inr h2
        · exact Or.inl ⟨j, by omega, h2⟩
      · rintro (⟨j, h1, h2⟩ | h2)
        · exact ⟨j, by omega, h2⟩
        · exact ⟨n, by omega, h2⟩
    rw [hstep]
    unfold sfD
    by_cases h1 : ¬ mIF f g i (nI (s + n)) = -1 ∧ mIF f g i (nI (s + n)) < kp ∧ ¬ mIF f g i (nI (s + n)) < mLH f g i (nI (s + n)) (-1)
    · rw [if_pos h1]
      refine ⟨fun z => Or.inr ⟨⟨h1.1, h1.2.2⟩, z⟩, fun z => z.elim (fun z => ?_) fun z => z.2⟩
      have a1 := zlt.mp h1.2.1
      have a2 := zlt.mp z
      exact zlt.mpr (by omega)
    · rw [if_neg h1]
      refine ⟨Or.inl, fun z => z.elim id fun z => ?_⟩
      have a1 : ¬ mIF f g i (nI (s + n)) < kp := fun y => h1 ⟨z.1.1, y, z.1.2⟩
      have a2 := zle.mp (Int32.not_lt.mp a1)
      have a3 := zlt.mp z.2
      exact zlt.mpr (by omega)
theorem hTK_eq (h : LI f g) (hi : i < g 3) {v : Int32} (hv : v.toInt ≤ 1000000) {A B : Nat} : hTK f g (nI i) A B < v ↔ hrm f g i A B v := by
  unfold hTK
  rw [hTK_fold h hi hv]
  unfold hrm
  constructor
  · rintro ⟨j, h1, h2, h3⟩
    exact ⟨max A (g 0) + j, by omega, by omega, by omega, h2, h3⟩
  · rintro ⟨D, h1, h2, h3, h4, h5⟩
    refine ⟨D - max A (g 0), by omega, ?_, ?_⟩ <;> rw [show max A (g 0) + (D - max A (g 0)) = D by omega]
    · exact h4
    · exact h5
/-! with one obstacle more -/
theorem mDS_eq (h : LI f g) (hi : i < g 3) {x y t a b : Int32} (hx : -20 ≤ x.toInt ∧ x.toInt ≤ 60) (hy : -9 ≤ y.toInt ∧ y.toInt ≤ 9) (ht : 0 ≤ t.toInt ∧ t.toInt ≤ 999) {d : Int32} (hth : thX a b d = true) : mDS f g x y t a b i d = rUp (imax (cF f f i (g 1) (pN f g d (-1))) (need x y t (mKi f i) (f 18 i))) := by
  have hg1 := h.1.2.1
  have hnw : ¬ nI (g 1) = -1 := fun z => by
    have h9 := congrArg Int32.toInt z
    rw [znI (by omega)] at h9
    have : (-1 : Int32).toInt = -1 := by decide
    omega
  obtain ⟨m1, m2, m3⟩ := fM_hi f (g 1) x y t
  unfold mDS
  rw [dmd_eq (li_pr h hi) (fun j hj hp => ?_)]
  · refine congrArg rUp ?_
    have e : cF (fM f (g 1) x y t) f i (g 1 + 1) (pM f g d (-1) a b) = if pM f g d (-1) a b (g 1) = true then imax (cF (fM f (g 1) x y t) f i (g 1) (pM f g d (-1) a b)) (need (fM f (g 1) x y t 10 (g 1)) (fM f (g 1) x y t 11 (g 1)) (fM f (g 1) x y t 12 (g 1)) (mKi f i) (f 18 i)) else cF (fM f (g 1) x y t) f i (g 1) (pM f g d (-1) a b) := rfl
    rw [e, if_pos (pM_ot ⟨hnw, hth⟩), m1, m2, m3]
    refine congrArg (fun z => imax z (need x y t (mKi f i) (f 18 i))) ?_
    unfold cF
    refine fl_cg fun j hj z => ?_
    obtain ⟨l1, l2, l3⟩ := fM_lo (f := f) (x := x) (y := y) (t := t) hj
    have ep : pM f g d (-1) a b j = pN f g d (-1) j := by
      unfold pM pN
      rw [if_pos hj]
      simp [hj]
    rw [l1, l2, l3, ep]
  · by_cases e : j = g 1
    · subst e
      unfold obB
      rw [m1, m2, m3]
      exact ⟨hx, hy, ht⟩
    · obtain ⟨l1, l2, l3⟩ := fM_lo (f := f) (x := x) (y := y) (t := t) (show j < g 1 by omega)
      unfold obB
      rw [l1, l2, l3]
      exact h.2.1 j (by omega)
theorem need_b (h : LI f g) (hi : i < g 3) {x y t : Int32} (hx : -20 ≤ x.toInt ∧ x.toInt ≤ 60) (hy : -9 ≤ y.toInt ∧ y.toInt ≤ 9) (ht : 0 ≤ t.toInt ∧ t.toInt ≤ 999) : -999 ≤ (need x y t (mKi f i) (f 18 i)).toInt ∧ (need x y t (mKi f i) (f 18 i)).toInt ≤ 1400 := by
  obtain ⟨⟨k, hk, e⟩, -⟩ := li_pr h hi
  by_cases h0 : 0 ≤ x.toInt
  · have := nd_b (s := f 18 i) (y := y) hk ⟨h0, hx.2⟩ hy ht
    rw [e]; omega
  · rw [nd_n ⟨hx.1, by omega⟩ ht]; omega
theorem mDS_lt (h : LI f g) (hi : i < g 3) {x y t a b : Int32} (hx : -20 ≤ x.toInt ∧ x.toInt ≤ 60) (hy : -9 ≤ y.toInt ∧ y.toInt ≤ 9) (ht : 0 ≤ t.toInt ∧ t.toInt ≤ 999) {d : Int32} (hth : thX a b d = true) {v : Int32} (hv : ¬ v < mLH f g i d (-1)) : v < mDS f g x y t a b i d ↔ v < nwb f i x y t := by
  rw [mDS_eq h hi hx hy ht hth]
  rw [mLH_cF h hi] at hv
  have hb := cF_bd (d := d) (w := -1) h hi
  have hn := need_b h hi hx hy ht
  generalize cF f f i (g 1) (pN f g d (-1)) = c0 at hv hb ⊢
  show v < rUp (imax c0 (need x y t (mKi f i) (f 18 i))) ↔ v < rUp (need x y t (mKi f i) (f 18 i))
  generalize need x y t (mKi f i) (f 18 i) = n0 at hn ⊢
  by_cases h1 : c0 < n0
  · have e : imax c0 n0 = n0 := if_pos h1
    rw [e]
  · have e : imax c0 n0 = c0 := if_neg h1
    have h2 := zle.mp (Int32.not_lt.mp h1)
    rw [e]
    have hv2 := zle.mp (Int32.not_lt.mp hv)
    refine ⟨fun z => absurd z hv, fun z => ?_⟩
    have h3 := zlt.mp z
    have h4 := rUp_i (h := c0) (by omega) (by omega)
    rcases rUp_mono hn.1 (show c0.toInt ≤ 2000 by omega) (by omega) h2 with h5 | ⟨h5, h6⟩ <;> omega
/-! the reference's harm -/
theorem sh_a : ∀ i, i < 4 → ∀ m, m < 2 ^ i → (nI m >>> (nI i &&& 31)) &&& 1 = 0 ∧ ¬ ((nI m ||| (1 <<< (nI i &&& 31))) >>> (nI i &&& 31)) &&& 1 = 0 ∧ nI m ||| (1 <<< (nI i &&& 31)) = nI (m + 2 ^ i) := by decide +kernel
theorem mHI_eq (hg : i < 4) {x y t a b : Int32} {sf : Nat → Nat → Int32} {m : Nat} (hm : m < 2 ^ i) : ∀ n j, (mHI f g x y t a b sf i n j (nI m) = nI (m + 2 ^ i) ∧ ∃ q, j ≤ q ∧ q < j + n ∧ (¬ sf i (g 0 + q) = -1 ∧ sf i (g 0 + q) < mDS f g x y t a b i (nI (g 0 + q)))) ∨ (mHI f g x y t a b sf i n j (nI m) = nI m ∧ ∀ q, j ≤ q → q < j + n → ¬ (¬ sf i (g 0 + q) = -1 ∧ sf i (g 0 + q) < mDS f g x y t a b i (nI (g 0 + q))))
  | 0, j => Or.inr ⟨rfl, fun q h1 h2 => by omega⟩
  | n + 1, j => by
    obtain ⟨s1, s2, s3⟩ := sh_a i hg m hm
    have e : mHI f g x y t a b sf i (n + 1) j (nI m) = if ¬ (nI m >>> (nI i &&& 31)) &&& 1 = 0 then nI m else mHI f g x y t a b sf i n (j + 1) (if ¬ sf i (g 0 + j) = -1 ∧ sf i (g 0 + j) < mDS f g x y t a b i (nI (g 0 + j)) then nI m ||| (1 <<< (nI i &&& 31)) else nI m) := rfl
    rw [e, if_neg (fun z => z s1)]
    by_cases hc : ¬ sf i (g 0 + j) = -1 ∧ sf i (g 0 + j) < mDS f g x y t a b i (nI (g 0 + j))
    · rw [if_pos hc, mHI_x s2, s3]
      exact Or.inl ⟨rfl, j, Nat.le_refl _, by omega, hc⟩
    · rw [if_neg hc]
      rcases mHI_eq hg (x := x) (y := y) (t := t) (a := a) (b := b) (sf := sf) hm n (j + 1) with ⟨h1, q, h2, h3, h4⟩ | ⟨h1, h2⟩
      · exact Or.inl ⟨h1, q, by omega, by omega, h4⟩
      · refine Or.inr ⟨h1, fun q h3 h4 => ?_⟩
        by_cases e9 : q = j
        · rw [e9]; exact hc
        · exact h2 q (by omega) (by omega)
/-- the days of a permit that isn't refused -/
abbrev dyB (a b : Int32) : Prop := (a = nI (cnt a) ∧ cnt a ≤ 399) ∧ (¬ b = -1 → b = nI (cnt b)) ∧ laOf b ≤ 399
theorem sf_hrm (h : LI f g) (hi : i < g 3) {x y t a b : Int32} (hx : -20 ≤ x.toInt ∧ x.toInt ≤ 60) (hy : -9 ≤ y.toInt ∧ y.toInt ≤ 9) (ht : 0 ≤ t.toInt ∧ t.toInt ≤ 999) (hd : dyB a b) : (∃ q, 0 ≤ q ∧ q < 0 + (400 - g 0) ∧ (¬ mSa f g a b i (g 0 + q) = -1 ∧ mSa f g a b i (g 0 + q) < mDS f g x y t a b i (nI (g 0 + q)))) ↔ hrm f g i (cnt a) (laOf b) (nwb f i x y t) := by
  have hg0 := h.1.1
  obtain ⟨⟨ha1, ha2⟩, hb1, hb2⟩ := hd
  -- a day that is asked
  have hasked : ∀ D, D < 400 → g 0 ≤ D → ((¬ nI D < a ∧ (b = -1 ∨ ¬ b < nI D)) ↔ (cnt a ≤ D ∧ D ≤ laOf b)) := fun D hD hg => by
    have e1 : nI D < a ↔ D < cnt a := by
      have h9 : nI D < nI (cnt a) ↔ D < cnt a := nI_ltI (by omega) (by omega)
      rw [← ha1] at h9; exact h9
    by_cases hbn : b = -1
    · rw [laOf, if_pos hbn, e1]
      exact ⟨fun z => ⟨by omega, by omega⟩, fun z => ⟨by omega, Or.inl hbn⟩⟩
    · have hbb := hb1 hbn
      rw [laOf, if_neg hbn] at hb2 ⊢
      have e2 : b < nI D ↔ cnt b < D := by
        have h9 : nI (cnt b) < nI D ↔ cnt b < D := nI_ltI (by omega) (by omega)
        rw [← hbb] at h9; exact h9
      rw [e1, e2]
      exact ⟨fun z => ⟨by omega, by have := z.2.resolve_left hbn; omega⟩, fun z => ⟨by omega, Or.inr (by omega)⟩⟩
  have hth : ∀ D, D < 400 → g 0 ≤ D → cnt a ≤ D → D ≤ laOf b → thX a b (nI D) = true := fun D h1 h2 h3 h4 => by
    have h5 := (hasked D h1 h2).mpr ⟨h3, h4⟩
    exact decide_eq_true h5
  have hsa : ∀ D, D < 400 → g 0 ≤ D → ((¬ mSa f g a b i D = -1) ↔ (cnt a ≤ D ∧ D ≤ laOf b ∧ sfD f g i D)) ∧ ((cnt a ≤ D ∧ D ≤ laOf b ∧ sfD f g i D) → mSa f g a b i D = mIF f g i (nI D)) := fun D hD hg => by
    have hnow : ¬ nI D < nI (g 0) := nI_nlt hg (by omega)
    have hak := hasked D hD hg
    have hun : mUn f g i (nI D) = true ↔ (¬ mIF f g i (nI D) = -1 ∧ mIF f g i (nI D) < mLH f g i (nI D) (-1)) := decide_eq_true_iff
    unfold mSa sfD
    rw [if_pos hD]
    by_cases hc : nI D < nI (g 0) ∨ nI D < a ∨ (¬ b = -1 ∧ b < nI D) ∨ mUn f g i (nI D) = true
    · rw [if_pos hc]
      have hno : ¬ (cnt a ≤ D ∧ D ≤ laOf b ∧ ¬ mIF f g i (nI D) = -1 ∧ ¬ mIF f g i (nI D) < mLH f g i (nI D) (-1)) := fun z => by
        have z1 := hak.mpr ⟨z.1, z.2.1⟩
        rcases hc with c1 | c1 | c1 | c1
        · exact hnow c1
        · exact z1.1 c1
        · exact z1.2.elim c1.1 (fun y => y c1.2)
        · exact z.2.2.2 (hun.mp c1).2
      exact ⟨⟨fun z => absurd rfl z, fun z => absurd z hno⟩, fun z => absurd z hno⟩
    · rw [if_neg hc]
      have hda := hak.mp ⟨fun z => hc (Or.inr (Or.inl z)), by
        by_cases hbn : b = -1
        · exact Or.inl hbn
        · exact Or.inr fun z => hc (Or.inr (Or.inr (Or.inl ⟨hbn, z⟩)))⟩
      refine ⟨⟨fun z => ⟨hda.1, hda.2, z, fun y => hc (Or.inr (Or.inr (Or.inr (hun.mpr ⟨z, y⟩))))⟩, fun z => z.2.2.1⟩, fun _ => rfl⟩
  constructor
  · rintro ⟨q, -, h1, h2, h3⟩
    have k1 := (hsa (g 0 + q) (by omega) (by omega)).1.mp h2
    rw [(hsa (g 0 + q) (by omega) (by omega)).2 k1] at h3
    exact ⟨g 0 + q, k1.1, k1.2.1, by omega, k1.2.2, (mDS_lt h hi hx hy ht (hth _ (by omega) (by omega) k1.1 k1.2.1) k1.2.2.2).mp h3⟩
  · rintro ⟨D, h1, h2, h3, h4, h5⟩
    have hD : D < 400 := by omega
    have k1 : cnt a ≤ D ∧ D ≤ laOf b ∧ sfD f g i D := ⟨h1, h2, h4⟩
    refine ⟨D - g 0, by omega, by omega, ?_⟩
    rw [show g 0 + (D - g 0) = D by omega]
    refine ⟨(hsa D hD h3).1.mpr k1, ?_⟩
    rw [(hsa D hD h3).2 k1]
    exact (mDS_lt h hi hx hy ht (hth _ hD h3 h1 h2) h4.2).mpr h5
theorem hrm_dec (f : Nat → Nat → Int32) (g : Nat → Nat) (i A B : Nat) (v : Int32) : hrm f g i A B v ∨ ¬ hrm f g i A B v := Classical.em _
theorem nwb_b (h : LI f g) (hi : i < g 3) {x y t : Int32} (hx : -20 ≤ x.toInt ∧ x.toInt ≤ 60) (hy : -9 ≤ y.toInt ∧ y.toInt ≤ 9) (ht : 0 ≤ t.toInt ∧ t.toInt ≤ 999) : (nwb f i x y t).toInt ≤ 1000000 := by
  have b := need_b h hi hx hy ht
  have q0 : (0 : Int32).toInt = 0 := by decide
  have q1 : (rUp 0).toInt = 0 := by decide
  show (rUp (need x y t (mKi f i) (f 18 i))).toInt ≤ 1000000
  by_cases h9 : 0 ≤ (need x y t (mKi f i) (f 18 i)).toInt
  · rw [rUp_i h9 (by omega)]; omega
  · rcases rUp_mono (a := need x y t (mKi f i) (f 18 i)) (b := 0) b.1 (by rw [q0]; omega) (by rw [q0]; omega) (by rw [q0]; omega) with h10 | h10
    · omega
    · omega
/-- the sets of both, procedure by procedure -/
theorem ha_set (h : LI f g) {x y t a b : Int32} (hx : -20 ≤ x.toInt ∧ x.toInt ≤ 60) (hy : -9 ≤ y.toInt ∧ y.toInt ≤ 9) (ht : 0 ≤ t.toInt ∧ t.toInt ≤ 999) (hd : dyB a b) : ∀ n, n ≤ g 3 → ∃ m, m < 2 ^ n ∧ fl n (fun j s => if hTK f g (nI j) (cnt a) (laOf b) < nWB f (nI j) x y t then s ||| (1 <<< (nI j &&& 31)) else s) 0 = nI m ∧ fl n (fun j s => mHI f g x y t a b (mSa f g a b) j (400 - g 0) 0 s) 0 = nI m ∧ (m = 0 ↔ ∀ i, i < n → ¬ hrm f g i (cnt a) (laOf b) (nwb f i x y t))
  | 0, _ => ⟨0, by decide, rfl, rfl, fun _ i hi => absurd hi (Nat.not_lt_zero i), fun _ => rfl⟩
  | n + 1, hn => by
    have hg3 := h.1.2.2.1
    obtain ⟨m, hm, e1, e2, e3⟩ := ha_set h hx hy ht hd n (by omega)
    have e4 : fl (n + 1) (fun j s => if hTK f g (nI j) (cnt a) (laOf b) < nWB f (nI j) x y t then s ||| (1 <<< (nI j &&& 31)) else s) 0 = (fun s : Int32 => if hTK f g (nI n) (cnt a) (laOf b) < nWB f (nI n) x y t then s ||| (1 <<< (nI n &&& 31)) else s) (fl n (fun j s => if hTK f g (nI j) (cnt a) (laOf b) < nWB f (nI j) x y t then s ||| (1 <<< (nI j &&& 31)) else s) 0) := rfl
    have e5 : fl (n + 1) (fun j s => mHI f g x y t a b (mSa f g a b) j (400 - g 0) 0 s) 0 = mHI f g x y t a b (mSa f g a b) n (400 - g 0) 0 (fl n (fun j s => mHI f g x y t a b (mSa f g a b) j (400 - g 0) 0 s) 0) := rfl
    rw [e4, e5, e1, e2]
    have e6 := hTK_eq h (i := n) (by omega) (v := nwb f n x y t) (nwb_b h (by omega) hx hy ht) (A := cnt a) (B := laOf b)
    rw [nWB_eq h (by omega)]
    have e7 := sf_hrm h (i := n) (by omega) hx hy ht hd
    have hp : 2 ^ (n + 1) = 2 ^ n + 2 ^ n := by rw [Nat.pow_succ]; omega
    show ∃ m', m' < 2 ^ (n + 1) ∧ (if hTK f g (nI n) (cnt a) (laOf b) < nwb f n x y t then nI m ||| (1 <<< (nI n &&& 31)) else nI m) = nI m' ∧ _
    rcases mHI_eq (f := f) (g := g) (i := n) (by omega) (x := x) (y := y) (t := t) (a := a) (b := b) (sf := mSa f g a b) hm (400 - g 0) 0 with ⟨h1, q, h2⟩ | ⟨h1, h2⟩
    · have h3 := e7.mp ⟨q, h2⟩
      refine ⟨m + 2 ^ n, by omega, ?_, h1, fun z => ?_, fun z => absurd h3 (z n (by omega))⟩
      · rw [if_pos (e6.mpr h3), (sh_a n (by omega) m hm).2.2]
      · have := Nat.two_pow_pos n
        omega
    · have h3 : ¬ hrm f g n (cnt a) (laOf b) (nwb f n x y t) := fun z => by
        obtain ⟨q, h4, h5, h6⟩ := e7.mpr z
        exact h2 q h4 h5 h6
      refine ⟨m, by omega, ?_, h1, fun z i hi => ?_, fun z => e3.mpr fun i hi => z i (by omega)⟩
      · rw [if_neg (fun z => h3 (e6.mp z))]
      · by_cases e : i = n
        · rw [e]; exact h3
        · exact e3.mp z i (by omega)
theorem prm_eq (h : LI f g) {x y t a b : Int32} (hx : -20 ≤ x.toInt ∧ x.toInt ≤ 60) (hy : -9 ≤ y.toInt ∧ y.toInt ≤ 9) (ht : 0 ≤ t.toInt ∧ t.toInt ≤ 999) (hd : dyB a b) : prm f g x y t a b = mHa f g x y t a b (mSa f g a b) := by
  obtain ⟨m, -, e1, e2, -⟩ := ha_set h hx hy ht hd (g 3) (Nat.le_refl _)
  exact e1.trans e2.symm
theorem mHa_0 (h : LI f g) {x y t a b : Int32} (hx : -20 ≤ x.toInt ∧ x.toInt ≤ 60) (hy : -9 ≤ y.toInt ∧ y.toInt ≤ 9) (ht : 0 ≤ t.toInt ∧ t.toInt ≤ 999) (hd : dyB a b) : mHa f g x y t a b (mSa f g a b) = 0 ↔ ∀ i, i < g 3 → ¬ hrm f g i (cnt a) (laOf b) (nwb f i x y t) := by
  have hg3 := h.1.2.2.1
  obtain ⟨m, hm, -, e2, e3⟩ := ha_set h hx hy ht hd (g 3) (Nat.le_refl _)
  have e4 : mHa f g x y t a b (mSa f g a b) = nI m := e2
  have hp : 2 ^ g 3 ≤ 2 ^ 4 := Nat.pow_le_pow_right (by decide) hg3
  rw [e4, ← e3]
  exact ne_ (b := 0) (by decide) (by omega) (by decide)
end EQH
