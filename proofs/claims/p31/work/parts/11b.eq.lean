/-! ===== class and reference agree: what a room holds ===== -/
/-- the notices and their first cancels -/
def LN (f : Nat → Nat → Int32) (g : Nat → Nat) : Prop :=
  (∀ j, j < g 5 → f 22 j = 3 → f 25 j ≤ nI (g 0) ∧ ∃ i, i < j ∧ f 23 j = nI i) ∧ (∀ i, g 5 ≤ i → f 27 i = -1) ∧
  ∀ i, i < g 5 → (f 27 i = -1 ∧ ∀ j, j < g 5 → f 22 j = 3 → ¬ f 23 j = nI i) ∨ ∃ c, c < g 5 ∧ i < c ∧ f 27 i = nI c ∧ f 22 c = 3 ∧ f 23 c = nI i ∧ ∀ j, j < g 5 → f 22 j = 3 → f 23 j = nI i → c ≤ j ∧ f 25 c ≤ f 25 j
/-- what every run keeps of a room's numbers -/
def LI (f : Nat → Nat → Int32) (g : Nat → Nat) : Prop :=
  (g 0 ≤ 399 ∧ g 1 ≤ 12 ∧ g 3 ≤ 4 ∧ g 4 ≤ 20 ∧ g 5 ≤ 16 ∧ g 7 ≤ 63 * g 0) ∧
  (∀ j, j < g 1 → obB f j) ∧ (∀ i, i < g 3 → (∃ a, a < 3 ∧ f 17 i = nI a) ∧ ¬ f 18 i = -1) ∧ (∀ a, a < 3 → ∃ k, k < 3 ∧ f 15 a = nI k) ∧
  (∀ j, j < g 4 → ∃ i, i < g 3 ∧ f 19 j = nI i) ∧ (∀ c, c < 4 → f 29 c = nI (cnt (f 29 c)) ∧ cnt (f 29 c) ≤ g 5) ∧ LN f g
section EQS
variable {f : Nat → Nat → Int32} {g : Nat → Nat} {i : Nat} {d w : Int32}
theorem li_pr (h : LI f g) (hi : i < g 3) : prB f i := by
  obtain ⟨⟨a, ha, e⟩, h2⟩ := h.2.2.1 i hi
  obtain ⟨k, hk, e2⟩ := h.2.2.2.1 a ha
  refine ⟨⟨k, hk, ?_⟩, h2⟩
  show f 15 (cnt (f 17 i)) = nI k
  rw [e, cnt_nI (by omega), e2]
theorem ki_eq (h : LI f g) (hi : i < g 3) : kiOf f (nI i) = mKi f i := by
  obtain ⟨⟨a, ha, e⟩, -⟩ := h.2.2.1 i hi
  have hg3 := h.1.2.2.1
  show rowAt 3 (f 15) (rowAt 4 (f 17) (nI i)) = f 15 (cnt (f 17 i))
  rw [rowAt_in (by omega) (by decide), e, rowAt_in ha (by decide), cnt_nI (by omega)]
theorem aid_eq (h : LI f g) (hi : i < g 3) : aidOf f (nI i) = f 17 i := by
  have hg3 := h.1.2.2.1
  exact rowAt_in (by omega) (by decide)
theorem lH_cF (h : LI f g) (hi : i < g 3) : lH f g (nI i) d w = rUp (cF f f i (g 1) (pN f g d w)) := by
  have hg1 := h.1.2.1
  have hg3 := h.1.2.2.1
  unfold lH cF
  rw [ki_eq h hi]
  refine congrArg rUp (fl_cg fun j hj z => ?_)
  have e : (¬ nI j = w ∧ isTh f (nI j) d = true) ↔ pN f g d w j = true := by
    unfold pN isTh mTh thX
    rw [rowAt_in (show j < 12 by omega) (by decide), rowAt_in (show j < 12 by omega) (by decide)]
    simp [hj]
  have e2 : ndOf f (nI i) (nI j) = need (f 10 j) (f 11 j) (f 12 j) (mKi f i) (f 18 i) := by
    show need (rowAt 12 (f 10) (nI j)) (rowAt 12 (f 11) (nI j)) (rowAt 12 (f 12) (nI j)) (kiOf f (nI i)) (rowAt 4 (f 18) (nI i)) = _
    rw [rowAt_in (show j < 12 by omega) (by decide), rowAt_in (show j < 12 by omega) (by decide), rowAt_in (show j < 12 by omega) (by decide), rowAt_in (show i < 4 by omega) (by decide), ki_eq h hi]
  by_cases hc : pN f g d w j = true
  · rw [if_pos (e.mpr hc), if_pos hc, e2]
  · rw [if_neg (fun z => hc (e.mp z)), if_neg hc]
theorem pN_lt {j : Nat} (h : pN f g d w j = true) : j < g 1 := (of_decide_eq_true h).1
theorem cF_1 : cF f f i (g 1 + 1) (pN f g d w) = cF f f i (g 1) (pN f g d w) := by
  have e : cF f f i (g 1 + 1) (pN f g d w) = if pN f g d w (g 1) = true then imax (cF f f i (g 1) (pN f g d w)) (need (f 10 (g 1)) (f 11 (g 1)) (f 12 (g 1)) (mKi f i) (f 18 i)) else cF f f i (g 1) (pN f g d w) := rfl
  rw [e, if_neg (fun z => absurd (pN_lt z) (Nat.lt_irrefl _))]
theorem mLH_cF (h : LI f g) (hi : i < g 3) : mLH f g i d w = rUp (cF f f i (g 1) (pN f g d w)) := by
  unfold mLH
  rw [dmd_eq (li_pr h hi) (fun j _ hp => h.2.1 j (pN_lt hp)), cF_1]
theorem lH_eq (h : LI f g) (hi : i < g 3) : lH f g (nI i) d w = mLH f g i d w := by rw [lH_cF h hi, mLH_cF h hi]
theorem cF_bd (h : LI f g) (hi : i < g 3) : 200 ≤ (cF f f i (g 1) (pN f g d w)).toInt ∧ (cF f f i (g 1) (pN f g d w)).toInt ≤ 1400 := cF_b (li_pr h hi) (fun j _ hp => h.2.1 j (pN_lt hp))
theorem mLH_b (h : LI f g) (hi : i < g 3) : 200 ≤ (mLH f g i d w).toInt ∧ (mLH f g i d w).toInt ≤ 1410 := by
  have hb := cF_bd (d := d) (w := w) h hi
  rw [mLH_cF h hi, rUp_i (by omega) (by omega)]
  omega
/-! charts -/
theorem hOn_am : ∀ n, n ≤ 20 → hOn f (nI i) d n = fl (amL f i n).length (fun j h => if ¬ d < f 20 ((amL f i n).getD j 0) then f 21 ((amL f i n).getD j 0) else h) (-1)
  | 0, _ => rfl
  | n + 1, hn => by
    have ih := hOn_am n (by omega)
    have e1 : hOn f (nI i) d (n + 1) = if rowAt 20 (f 19) (nI n) = nI i ∧ ¬ d < rowAt 20 (f 20) (nI n) then rowAt 20 (f 21) (nI n) else hOn f (nI i) d n := rfl
    rw [e1, rowAt_in (show n < 20 by omega) (by decide), rowAt_in (show n < 20 by omega) (by decide), rowAt_in (show n < 20 by omega) (by decide)]
    have e2 := amL_s (f := f) (f' := f) (n := n) (fun _ _ => rfl) i
    by_cases h : f 19 n = nI i
    · rw [if_pos h] at e2
      rw [e2, List.length_append]
      have e3 : (amL f i n ++ [n]).getD (amL f i n).length 0 = n := by
        rw [List.getD_eq_getElem?_getD, List.getElem?_append_right (Nat.le_refl _), Nat.sub_self]; rfl
      have e4 : fl (amL f i n).length (fun j h => if ¬ d < f 20 ((amL f i n ++ [n]).getD j 0) then f 21 ((amL f i n ++ [n]).getD j 0) else h) (-1) = hOn f (nI i) d n := by
        rw [ih]
        refine fl_cg fun j hj z => ?_
        have e5 : (amL f i n ++ [n]).getD j 0 = (amL f i n).getD j 0 := by
          rw [List.getD_eq_getElem?_getD, List.getD_eq_getElem?_getD, List.getElem?_append_left hj]
        rw [e5]
      show _ = (if ¬ d < f 20 ((amL f i n ++ [n]).getD (amL f i n).length 0) then f 21 ((amL f i n ++ [n]).getD (amL f i n).length 0) else fl (amL f i n).length (fun j h => if ¬ d < f 20 ((amL f i n ++ [n]).getD j 0) then f 21 ((amL f i n ++ [n]).getD j 0) else h) (-1))
      rw [e3, e4]
      by_cases h2 : d < f 20 n
      · rw [if_neg (fun z => z.2 h2), if_neg (fun z => z h2)]
      · rw [if_pos ⟨h, h2⟩, if_pos h2]
    · rw [if_neg h, List.append_nil] at e2
      rw [e2, if_neg (fun z => h z.1)]
      exact ih
theorem hOn_eq (h : LI f g) : hOn f (nI i) d (g 4) = mCh f g i d := hOn_am (g 4) h.1.2.2.2.1
/-! notices that count -/
theorem mCo_t {k : Nat} : ∀ n q, mCo f k d n q = true ↔ ∀ j, q ≤ j → j < q + n → ¬ (f 22 j = 3 ∧ f 23 j = nI k ∧ ¬ d < f 25 j)
  | 0, q => ⟨fun _ j h1 h2 => by omega, fun _ => rfl⟩
  | n + 1, q => by
    have ih := mCo_t (k := k) n (q + 1)
    have e1 : mCo f k d (n + 1) q = if f 22 q = 3 ∧ f 23 q = nI k ∧ ¬ d < f 25 q then false else mCo f k d n (q + 1) := rfl
    rw [e1]
    by_cases h : f 22 q = 3 ∧ f 23 q = nI k ∧ ¬ d < f 25 q
    · rw [if_pos h]
      exact ⟨fun z => Bool.noConfusion z, fun z => absurd h (z q (Nat.le_refl _) (by omega))⟩
    · rw [if_neg h, ih]
      constructor
      · intro z j h1 h2
        by_cases e : j = q
        · rw [e]; exact h
        · exact z j (by omega) (by omega)
      · intro z j h1 h2
        exact z j (by omega) (by omega)
theorem isAc_eq (h : LI f g) {k B : Nat} (hk : k < g 5) (hB : B ≤ g 5) : isAc f (nI k) d (nI B) = mCt f k d B := by
  have hg5 := h.1.2.2.2.2.1
  obtain ⟨n1, n2, n3⟩ := h.2.2.2.2.2.2
  unfold isAc mCt
  rw [rowAt_in (show k < 16 by omega) (by decide), rowAt_in (show k < 16 by omega) (by decide), rowAt_in (show k < 16 by omega) (by decide), rowAt_in (show k < 16 by omega) (by decide)]
  by_cases hc : f 22 k = 3 ∨ d < f 25 k ∨ f 26 k < d
  · rw [if_pos hc]
    refine decide_eq_false fun z => ?_
    rcases hc with h1 | h1 | h1
    · exact z.1.1 h1
    · exact z.1.2.1 h1
    · exact z.1.2.2 h1
  · rw [if_neg hc]
    have hc1 : ¬ f 22 k = 3 ∧ ¬ d < f 25 k ∧ ¬ f 26 k < d := ⟨fun z => hc (Or.inl z), fun z => hc (Or.inr (Or.inl z)), fun z => hc (Or.inr (Or.inr z))⟩
    rw [Bool.eq_iff_iff, decide_eq_true_iff, mCo_t]
    rcases n3 k hk with ⟨m1, m2⟩ | ⟨c, m1, m2, m3, m4, m5, m6⟩
    · refine ⟨fun _ j h1 h2 z => m2 j (by omega) z.1 z.2.1, fun _ => ⟨hc1, Or.inl m1⟩⟩
    · rw [m3, rowAt_in (show c < 16 by omega) (by decide)]
      have hn1 : ¬ nI c = -1 := fun z => by
        have h9 := congrArg Int32.toInt z
        rw [znI (by omega)] at h9
        have : (-1 : Int32).toInt = -1 := by decide
        omega
      constructor
      · intro z j h1 h2 y
        obtain ⟨y1, y2⟩ := m6 j (by omega) y.1 y.2.1
        rcases z.2 with z1 | z1 | z1
        · exact hn1 z1
        · exact z1 (nI_lt (by omega) (by omega))
        · exact y.2.2 (Int32.lt_of_lt_of_le z1 y2)
      · intro z
        refine ⟨hc1, ?_⟩
        by_cases h1 : c < B
        · right; right
          by_cases h2 : d < f 25 c
          · exact h2
          · exact absurd ⟨m4, m5, h2⟩ (z c (by omega) (by omega))
        · right; left
          exact nI_nlt (by omega) (by omega)
theorem mNL_n {B : Nat} : ∀ n k r, mNL f i d (-1) B n k r = -1
  | 0, _, _ => if_pos rfl
  | n + 1, k, r => by
    have e : mNL f i d (-1) B (n + 1) k r = if mCt f k d B = true then (if (f 22 k = 1 ∧ f 23 k = f 17 i) ∨ (f 22 k = 2 ∧ f 23 k = nI i) then -1 else if f 22 k = 0 ∧ f 23 k = nI i then mNL f i d (-1) B n (k + 1) (imax r (f 24 k)) else mNL f i d (-1) B n (k + 1) r) else mNL f i d (-1) B n (k + 1) r := rfl
    rw [e, mNL_n n, mNL_n n]
    split
    · split
      · rfl
      · split <;> rfl
    · rfl
theorem apL_eq (h : LI f g) {ch : Int32} {B : Nat} (hch : ¬ ch = -1) (hB : B ≤ g 5) : ∀ n k r, k + n = B → apL f ch (nI i) (f 17 i) d (nI B) n k r = mNL f i d ch B n k r
  | 0, k, r, _ => (if_neg hch).symm
  | n + 1, k, r, hk => by
    have hg5 := h.1.2.2.2.2.1
    have e1 : apL f ch (nI i) (f 17 i) d (nI B) (n + 1) k r = if ¬ isAc f (nI k) d (nI B) then apL f ch (nI i) (f 17 i) d (nI B) n (k + 1) r else if (rowAt 16 (f 22) (nI k) = 1 ∧ rowAt 16 (f 23) (nI k) = f 17 i) ∨ (rowAt 16 (f 22) (nI k) = 2 ∧ rowAt 16 (f 23) (nI k) = nI i) then -1 else if rowAt 16 (f 22) (nI k) = 0 ∧ rowAt 16 (f 23) (nI k) = nI i then apL f ch (nI i) (f 17 i) d (nI B) n (k + 1) (imax r (rowAt 16 (f 24) (nI k))) else apL f ch (nI i) (f 17 i) d (nI B) n (k + 1) r := rfl
    have e2 : mNL f i d ch B (n + 1) k r = if mCt f k d B = true then (if (f 22 k = 1 ∧ f 23 k = f 17 i) ∨ (f 22 k = 2 ∧ f 23 k = nI i) then -1 else if f 22 k = 0 ∧ f 23 k = nI i then mNL f i d ch B n (k + 1) (imax r (f 24 k)) else mNL f i d ch B n (k + 1) r) else mNL f i d ch B n (k + 1) r := rfl
    rw [e1, e2, isAc_eq h (by omega) hB, rowAt_in (show k < 16 by omega) (by decide), rowAt_in (show k < 16 by omega) (by decide), rowAt_in (show k < 16 by omega) (by decide), apL_eq h hch hB n (k + 1) _ (by omega), apL_eq h hch hB n (k + 1) _ (by omega)]
    by_cases hc : mCt f k d B = true
    · rw [if_neg (fun z => z hc), if_pos hc]
    · rw [if_pos hc, if_neg hc]
theorem apTo_eq (h : LI f g) {ch : Int32} {B : Nat} (hB : B ≤ g 5) : apTo f ch (nI i) (f 17 i) d (nI B) = mNo f i d ch B := by
  have hg5 := h.1.2.2.2.2.1
  unfold apTo mNo
  by_cases hch : ch = -1
  · rw [if_pos hch, hch, mNL_n]
  · rw [if_neg hch, cnt_nI (by omega)]
    exact apL_eq h hch hB B 0 0 (by omega)
theorem hIF_eq (h : LI f g) (hi : i < g 3) : hIF f g (nI i) d = mIF f g i d := by
  have hg3 := h.1.2.2.1
  obtain ⟨⟨a, ha, e⟩, -⟩ := h.2.2.1 i hi
  unfold hIF mIF
  have e2 : isGd f (aidOf f (nI i)) d = mGd f (cnt (f 17 i)) d := by
    rw [aid_eq h hi, e, cnt_nI (by omega)]
    unfold isGd mGd
    rw [rowAt_in ha (by decide)]
  rw [e2, hOn_eq h, aid_eq h hi, apTo_eq h (Nat.le_refl _)]
  by_cases hc : mGd f (cnt (f 17 i)) d = true
  · rw [if_neg (fun z => z hc), if_pos hc]
  · rw [if_pos hc, if_neg hc]
theorem isUn_eq (h : LI f g) (hi : i < g 3) : isUn f g (nI i) d = mUn f g i d := by
  unfold isUn mUn
  rw [hIF_eq h hi, lH_eq h hi]
end EQS
