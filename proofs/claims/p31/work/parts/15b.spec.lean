/-! ===== what the law needs of the answers ===== -/
/-- the invariant of the law's runs: that of all runs, and bounds of the heights and of the raises -/
def IV (f : Nat → Nat → Int32) (g : Nat → Nat) : Prop := LI f g ∧ (∀ j, j < g 4 → 200 ≤ (f 21 j).toInt ∧ (f 21 j).toInt ≤ 1410) ∧ ∀ j, j < g 5 → 0 ≤ (f 24 j).toInt ∧ (f 24 j).toInt ≤ 500
section SPC
variable {f : Nat → Nat → Int32} {g : Nat → Nat} {i : Nat} {d p a kn w : Int32}
theorem lH_q (h : LI f g) (hi : i < g 3) (d w : Int32) : ∃ q, 20 ≤ q ∧ q ≤ 141 ∧ lH f g (nI i) d w = nI (10 * q) := by
  have hb := cF_bd (d := d) (w := w) h hi
  refine ⟨((cF f f i (g 1) (pN f g d w)).toInt.toNat + 9) / 10, by omega, by omega, i32_of ?_ (by omega)⟩
  rw [lH_cF h hi, rUp_i (by omega) (by omega)]
  omega
theorem hOn_c (hh : ∀ j, j < g 4 → 200 ≤ (f 21 j).toInt ∧ (f 21 j).toInt ≤ 1410) (h4 : g 4 ≤ 20) (p d : Int32) : ∀ n, n ≤ g 4 → hOn f p d n = -1 ∨ ∃ ch, 200 ≤ ch ∧ ch ≤ 1410 ∧ hOn f p d n = nI ch
  | 0, _ => Or.inl rfl
  | n + 1, hn => by
    have e : hOn f p d (n + 1) = if rowAt 20 (f 19) (nI n) = p ∧ ¬ d < rowAt 20 (f 20) (nI n) then rowAt 20 (f 21) (nI n) else hOn f p d n := rfl
    rw [e]
    split
    · rw [rowAt_in (show n < 20 by omega) (by decide)]
      have hb := hh n (by omega)
      exact Or.inr ⟨(f 21 n).toInt.toNat, by omega, by omega, i32_of (by omega) (by omega)⟩
    · exact hOn_c hh h4 p d n (by omega)
/-! notices, one behind another -/
def stp (f : Nat → Nat → Int32) (p a d kn : Int32) (j : Nat) : Option Int32 → Option Int32
  | none => none
  | some q => if ¬ isAc f (nI j) d kn = true then some q else if (rowAt 16 (f 22) (nI j) = 1 ∧ rowAt 16 (f 23) (nI j) = a) ∨ (rowAt 16 (f 22) (nI j) = 2 ∧ rowAt 16 (f 23) (nI j) = p) then none else if rowAt 16 (f 22) (nI j) = 0 ∧ rowAt 16 (f 23) (nI j) = p then some (imax q (rowAt 16 (f 24) (nI j))) else some q
def ouT (ch : Int32) : Option Int32 → Int32
  | none => -1
  | some q => ch + q
def nF (f : Nat → Nat → Int32) (p a d kn : Int32) (n : Nat) : Option Int32 := fl n (fun j o => stp f p a d kn j o) (some 0)
theorem fl_front {σ : Type} {F : Nat → σ → σ} : ∀ n s, fl (n + 1) F s = fl n (fun j => F (j + 1)) (F 0 s)
  | 0, _ => rfl
  | n + 1, s => by
    show F (n + 1) (fl (n + 1) F s) = F (n + 1) (fl n (fun j => F (j + 1)) (F 0 s))
    rw [fl_front n s]
theorem stp_none (k : Nat) : ∀ n, fl n (fun j o => stp f p a d kn (k + j) o) none = none
  | 0 => rfl
  | n + 1 => by
    show stp f p a d kn (k + n) (fl n (fun j o => stp f p a d kn (k + j) o) none) = none
    rw [stp_none k n]
    rfl
theorem apL_f (ch : Int32) : ∀ n k r, apL f ch p a d kn n k r = ouT ch (fl n (fun j o => stp f p a d kn (k + j) o) (some r))
  | 0, k, r => rfl
  | n + 1, k, r => by
    have e : apL f ch p a d kn (n + 1) k r = if ¬ isAc f (nI k) d kn = true then apL f ch p a d kn n (k + 1) r else if (rowAt 16 (f 22) (nI k) = 1 ∧ rowAt 16 (f 23) (nI k) = a) ∨ (rowAt 16 (f 22) (nI k) = 2 ∧ rowAt 16 (f 23) (nI k) = p) then -1 else if rowAt 16 (f 22) (nI k) = 0 ∧ rowAt 16 (f 23) (nI k) = p then apL f ch p a d kn n (k + 1) (imax r (rowAt 16 (f 24) (nI k))) else apL f ch p a d kn n (k + 1) r := rfl
    have e2 : ∀ s, fl n (fun j o => stp f p a d kn (k + (j + 1)) o) s = fl n (fun j o => stp f p a d kn (k + 1 + j) o) s := fun s => fl_cg fun j _ z => by rw [show k + (j + 1) = k + 1 + j by omega]
    have e3 : stp f p a d kn (k + 0) (some r) = if ¬ isAc f (nI k) d kn = true then some r else if (rowAt 16 (f 22) (nI k) = 1 ∧ rowAt 16 (f 23) (nI k) = a) ∨ (rowAt 16 (f 22) (nI k) = 2 ∧ rowAt 16 (f 23) (nI k) = p) then none else if rowAt 16 (f 22) (nI k) = 0 ∧ rowAt 16 (f 23) (nI k) = p then some (imax r (rowAt 16 (f 24) (nI k))) else some r := rfl
    rw [e, fl_front]
    show _ = ouT ch (fl n (fun j o => stp f p a d kn (k + (j + 1)) o) (stp f p a d kn (k + 0) (some r)))
    rw [e2, e3]
    split
    · exact apL_f ch n (k + 1) r
    · split
      · rw [stp_none]; rfl
      · split
        · exact apL_f ch n (k + 1) _
        · exact apL_f ch n (k + 1) r
theorem apTo_n {ch : Int32} {N : Nat} (hN : N < 65536) : apTo f ch p a d (nI N) = if ch = -1 then -1 else ouT ch (nF f p a d (nI N) N) := by
  unfold apTo
  rw [cnt_nI (by omega), apL_f]
  have e : fl N (fun j o => stp f p a d (nI N) (0 + j) o) (some 0) = nF f p a d (nI N) N := fl_cg fun j _ z => by rw [Nat.zero_add]
  rw [e]
theorem nF_b (hr : ∀ j, j < g 5 → 0 ≤ (f 24 j).toInt ∧ (f 24 j).toInt ≤ 500) (h5 : g 5 ≤ 16) : ∀ n, n ≤ g 5 → nF f p a d kn n = none ∨ ∃ q, q ≤ 500 ∧ nF f p a d kn n = some (nI q)
  | 0, _ => Or.inr ⟨0, by decide, rfl⟩
  | n + 1, hn => by
    have e : nF f p a d kn (n + 1) = stp f p a d kn n (nF f p a d kn n) := rfl
    rw [e]
    rcases nF_b hr h5 n (by omega) with h | ⟨q, hq, h⟩
    · rw [h]; exact Or.inl rfl
    · rw [h]
      have e3 : stp f p a d kn n (some (nI q)) = if ¬ isAc f (nI n) d kn = true then some (nI q) else if (rowAt 16 (f 22) (nI n) = 1 ∧ rowAt 16 (f 23) (nI n) = a) ∨ (rowAt 16 (f 22) (nI n) = 2 ∧ rowAt 16 (f 23) (nI n) = p) then none else if rowAt 16 (f 22) (nI n) = 0 ∧ rowAt 16 (f 23) (nI n) = p then some (imax (nI q) (rowAt 16 (f 24) (nI n))) else some (nI q) := rfl
      rw [e3]
      split
      · exact Or.inr ⟨q, hq, rfl⟩
      · split
        · exact Or.inl rfl
        · split
          · have hb := hr n (by omega)
            have e4 : f 24 n = nI (f 24 n).toInt.toNat := i32_of (by omega) (by omega)
            rw [rowAt_in (show n < 16 by omega) (by decide), e4, imax_nI (by omega) (by omega)]
            exact Or.inr ⟨_, by omega, rfl⟩
          · exact Or.inr ⟨q, hq, rfl⟩
theorem hIF_n (h5 : g 5 < 65536) : hIF f g p d = if ¬ isGd f (aidOf f p) d = true then -1 else if hOn f p d (g 4) = -1 then -1 else ouT (hOn f p d (g 4)) (nF f p (aidOf f p) d (nI (g 5)) (g 5)) := by
  unfold hIF
  rw [apTo_n h5]
/-- what is in force, in numbers -/
theorem hI_c (h : IV f g) (p d : Int32) : hIF f g p d = -1 ∨ ∃ ch q, 200 ≤ ch ∧ ch ≤ 1410 ∧ q ≤ 500 ∧ hOn f p d (g 4) = nI ch ∧ nF f p (aidOf f p) d (nI (g 5)) (g 5) = some (nI q) ∧ hIF f g p d = nI (ch + q) ∧ isGd f (aidOf f p) d = true := by
  have h4 := h.1.1.2.2.2.1
  have h5 := h.1.1.2.2.2.2.1
  rw [hIF_n (by omega)]
  by_cases hg : isGd f (aidOf f p) d = true
  · rw [if_neg (fun z => z hg)]
    rcases hOn_c h.2.1 h4 p d (g 4) (Nat.le_refl _) with hc | ⟨ch, c1, c2, c3⟩
    · rw [if_pos hc]; exact Or.inl rfl
    · rw [c3, if_neg (nI_m1 (by omega))]
      rcases nF_b (p := p) (a := aidOf f p) (d := d) (kn := nI (g 5)) h.2.2 h5 (g 5) (Nat.le_refl _) with hn | ⟨q, hq, hn⟩
      · rw [hn]; exact Or.inl rfl
      · rw [hn]
        exact Or.inr ⟨ch, q, c1, c2, hq, rfl, rfl, nI_add ch q, hg⟩
  · rw [if_pos hg]; exact Or.inl rfl
theorem isUn_n (e : hIF f g p d = -1) : ¬ isUn f g p d = true := fun z => (of_decide_eq_true z).1 e
theorem isUn_p {h1 q : Nat} (e : hIF f g p d = nI h1) (e2 : lH f g p d (-1) = nI q) (hh : h1 < 65536) (hq : q < 65536) : isUn f g p d = true ↔ h1 < q := by
  unfold isUn
  rw [decide_eq_true_iff, e, e2, nI_ltI (by omega) (by omega)]
  exact ⟨fun z => z.2, fun z => ⟨nI_m1 hh, z⟩⟩
/-! the first bad day -/
theorem uOn_s : ∀ n k, (uOn f g p n k = -1 ∧ ∀ j, k ≤ j → j < k + n → ¬ isUn f g p (nI (g 0 + j)) = true) ∨ ∃ j, k ≤ j ∧ j < k + n ∧ uOn f g p n k = nI (g 0 + j) ∧ isUn f g p (nI (g 0 + j)) = true ∧ ∀ q, k ≤ q → q < j → ¬ isUn f g p (nI (g 0 + q)) = true
  | 0, k => Or.inl ⟨rfl, fun j h1 h2 => by omega⟩
  | n + 1, k => by
    have e : uOn f g p (n + 1) k = if isUn f g p (nI (g 0 + k)) = true then nI (g 0 + k) else uOn f g p n (k + 1) := rfl
    rw [e]
    by_cases h : isUn f g p (nI (g 0 + k)) = true
    · rw [if_pos h]
      exact Or.inr ⟨k, Nat.le_refl _, by omega, rfl, h, fun q h1 h2 => by omega⟩
    · rw [if_neg h]
      rcases uOn_s n (k + 1) with ⟨h1, h2⟩ | ⟨j, h1, h2, h3, h4, h5⟩
      · refine Or.inl ⟨h1, fun j h3 h4 => ?_⟩
        by_cases e2 : j = k
        · rw [e2]; exact h
        · exact h2 j (by omega) (by omega)
      · refine Or.inr ⟨j, by omega, by omega, h3, h4, fun q h6 h7 => ?_⟩
        by_cases e2 : q = k
        · rw [e2]; exact h
        · exact h5 q (by omega) h7
/-- by days -/
theorem uo_c (h0 : g 0 ≤ 399) (p : Int32) : (uOn f g p (400 - g 0) 0 = -1 ∧ ∀ d, g 0 ≤ d → d ≤ 399 → ¬ isUn f g p (nI d) = true) ∨ ∃ d, g 0 ≤ d ∧ d ≤ 399 ∧ uOn f g p (400 - g 0) 0 = nI d ∧ isUn f g p (nI d) = true ∧ ∀ q, g 0 ≤ q → q < d → ¬ isUn f g p (nI q) = true := by
  rcases uOn_s (f := f) (g := g) (p := p) (400 - g 0) 0 with ⟨h1, h2⟩ | ⟨j, h1, h2, h3, h4, h5⟩
  · refine Or.inl ⟨h1, fun d h3 h4 => ?_⟩
    have h6 := h2 (d - g 0) (by omega) (by omega)
    rw [show g 0 + (d - g 0) = d by omega] at h6
    exact h6
  · refine Or.inr ⟨g 0 + j, by omega, by omega, h3, h4, fun q h6 h7 => ?_⟩
    have h8 := h5 (q - g 0) (by omega) (by omega)
    rw [show g 0 + (q - g 0) = q by omega] at h8
    exact h8
theorem uOn_cg {f' : Nat → Nat → Int32} {g' : Nat → Nat} (h0 : g' 0 = g 0) : ∀ n k, (∀ j, k ≤ j → j < k + n → isUn f' g' p (nI (g 0 + j)) = isUn f g p (nI (g 0 + j))) → uOn f' g' p n k = uOn f g p n k
  | 0, k, _ => rfl
  | n + 1, k, h => by
    have e : uOn f g p (n + 1) k = if isUn f g p (nI (g 0 + k)) = true then nI (g 0 + k) else uOn f g p n (k + 1) := rfl
    have e' : uOn f' g' p (n + 1) k = if isUn f' g' p (nI (g' 0 + k)) = true then nI (g' 0 + k) else uOn f' g' p n (k + 1) := rfl
    rw [e, e', h0, h k (Nat.le_refl _) (by omega), uOn_cg h0 n (k + 1) (fun j h1 h2 => h j (by omega) (by omega))]
/-! the raise that would do -/
/-- what a day asks of a raise -/
abbrev dlt (f : Nat → Nat → Int32) (g : Nat → Nat) (p d : Int32) : Int32 := lH f g p d (-1) - hOn f p d (g 4)
theorem dlt_b (h : IV f g) (hi : i < g 3) (hu : isUn f g (nI i) d = true) : 0 < (dlt f g (nI i) d).toInt ∧ (dlt f g (nI i) d).toInt ≤ 1410 := by
  obtain ⟨q, q1, q2, q3⟩ := lH_q h.1 hi d (-1)
  rcases hI_c h (nI i) d with hn | ⟨ch, r, c1, c2, c3, c4, -, c5, -⟩
  · exact absurd hu (isUn_n hn)
  · have hlt := (isUn_p c5 q3 (by omega) (by omega)).mp hu
    unfold dlt
    rw [q3, c4, pk_sub_toInt (by omega) (by omega)]
    omega
theorem rf_b (h : IV f g) (hi : i < g 3) : ∀ n, (0 ≤ (fl n (fun j by_ => if isUn f g (nI i) (nI (g 0 + j)) = true then imax by_ (lH f g (nI i) (nI (g 0 + j)) (-1) - hOn f (nI i) (nI (g 0 + j)) (g 4)) else by_) 0).toInt ∧ (fl n (fun j by_ => if isUn f g (nI i) (nI (g 0 + j)) = true then imax by_ (lH f g (nI i) (nI (g 0 + j)) (-1) - hOn f (nI i) (nI (g 0 + j)) (g 4)) else by_) 0).toInt ≤ 1410) ∧ (∀ j, j < n → isUn f g (nI i) (nI (g 0 + j)) = true → (dlt f g (nI i) (nI (g 0 + j))).toInt ≤ (fl n (fun j by_ => if isUn f g (nI i) (nI (g 0 + j)) = true then imax by_ (lH f g (nI i) (nI (g 0 + j)) (-1) - hOn f (nI i) (nI (g 0 + j)) (g 4)) else by_) 0).toInt) ∧ ((∀ j, j < n → ¬ isUn f g (nI i) (nI (g 0 + j)) = true) → fl n (fun j by_ => if isUn f g (nI i) (nI (g 0 + j)) = true then imax by_ (lH f g (nI i) (nI (g 0 + j)) (-1) - hOn f (nI i) (nI (g 0 + j)) (g 4)) else by_) 0 = 0)
  | 0 => by
    refine ⟨?_, fun j hj => absurd hj (Nat.not_lt_zero j), fun _ => rfl⟩
    show 0 ≤ (0 : Int32).toInt ∧ (0 : Int32).toInt ≤ 1410
    rw [z0]; omega
  | n + 1 => by
    obtain ⟨k1, k2, k3⟩ := rf_b h hi n
    have e : fl (n + 1) (fun j by_ => if isUn f g (nI i) (nI (g 0 + j)) = true then imax by_ (lH f g (nI i) (nI (g 0 + j)) (-1) - hOn f (nI i) (nI (g 0 + j)) (g 4)) else by_) 0 = (fun by_ : Int32 => if isUn f g (nI i) (nI (g 0 + n)) = true then imax by_ (lH f g (nI i) (nI (g 0 + n)) (-1) - hOn f (nI i) (nI (g 0 + n)) (g 4)) else by_) (fl n (fun j by_ => if isUn f g (nI i) (nI (g 0 + j)) = true then imax by_ (lH f g (nI i) (nI (g 0 + j)) (-1) - hOn f (nI i) (nI (g 0 + j)) (g 4)) else by_) 0) := rfl
    rw [e]
    generalize fl n (fun j by_ => if isUn f g (nI i) (nI (g 0 + j)) = true then imax by_ (lH f g (nI i) (nI (g 0 + j)) (-1) - hOn f (nI i) (nI (g 0 + j)) (g 4)) else by_) 0 = r at k1 k2 k3 ⊢
    by_cases hu : isUn f g (nI i) (nI (g 0 + n)) = true
    · have hb := dlt_b h hi hu
      have em : (imax r (lH f g (nI i) (nI (g 0 + n)) (-1) - hOn f (nI i) (nI (g 0 + n)) (g 4))).toInt = max r.toInt (dlt f g (nI i) (nI (g 0 + n))).toInt := zmax _ _
      simp only [hu, if_true]
      refine ⟨by omega, fun j hj hj2 => ?_, fun z => absurd hu (z n (Nat.lt_succ_self n))⟩
      by_cases e2 : j = n
      · subst e2; omega
      · have := k2 j (by omega) hj2; omega
    · simp only [hu, if_false]
      refine ⟨k1, fun j hj hj2 => ?_, fun z => k3 fun j hj => z j (by omega)⟩
      by_cases e2 : j = n
      · subst e2; exact absurd hj2 hu
      · exact k2 j (by omega) hj2
/-- by days: none is bad and the raise is 0, or one is, and the raise is above 500 (told as -1), or it is enough for each -/
theorem rF_c (h : IV f g) (hi : i < g 3) : ((∀ d, g 0 ≤ d → d ≤ 399 → ¬ isUn f g (nI i) (nI d) = true) → rFo f g (nI i) = 0) ∧ ((∃ d, g 0 ≤ d ∧ d ≤ 399 ∧ isUn f g (nI i) (nI d) = true) → rFo f g (nI i) = -1 ∨ ∃ r, 1 ≤ r ∧ r ≤ 500 ∧ rFo f g (nI i) = nI r ∧ ∀ d, g 0 ≤ d → d ≤ 399 → isUn f g (nI i) (nI d) = true → (dlt f g (nI i) (nI d)).toInt ≤ r) := by
  have h0 := h.1.1.1
  obtain ⟨k1, k2, k3⟩ := rf_b h hi (400 - g 0)
  have e5 : (500 : Int32).toInt = 500 := by decide
  constructor
  · intro hn
    have e : rFL f g (nI i) = 0 := k3 fun j hj => hn (g 0 + j) (by omega) (by omega)
    unfold rFo
    rw [e]
    rfl
  · rintro ⟨d, d1, d2, d3⟩
    have k4 : ∀ d, g 0 ≤ d → d ≤ 399 → isUn f g (nI i) (nI d) = true → (dlt f g (nI i) (nI d)).toInt ≤ (rFL f g (nI i)).toInt := fun d a1 a2 a3 => by
      have h9 := k2 (d - g 0) (by omega)
      rw [show g 0 + (d - g 0) = d by omega] at h9
      exact h9 a3
    have hb := dlt_b h hi d3
    have hk := k4 d d1 d2 d3
    have k1' : 0 ≤ (rFL f g (nI i)).toInt ∧ (rFL f g (nI i)).toInt ≤ 1410 := k1
    unfold rFo
    by_cases hc : 500 < rFL f g (nI i)
    · rw [if_pos hc]; exact Or.inl rfl
    · rw [if_neg hc]
      have hc2 : (rFL f g (nI i)).toInt ≤ 500 := by
        have := zle.mp (Int32.not_lt.mp hc)
        omega
      exact Or.inr ⟨(rFL f g (nI i)).toInt.toNat, by omega, by omega, i32_of (by omega) (by omega), fun d a1 a2 a3 => by have := k4 d a1 a2 a3; omega⟩
/-! who decides -/
theorem lH_no {j : Nat} (hj : ¬ isTh f (nI j) d = true) (h1 : g 1 < 65536) : lH f g p d (nI j) = lH f g p d (-1) := by
  unfold lH
  refine congrArg rUp (fl_cg fun k hk z => ?_)
  by_cases ht : isTh f (nI k) d = true
  · have e1 : ¬ nI k = nI j := fun z => hj (z ▸ ht)
    rw [if_pos ⟨e1, ht⟩, if_pos ⟨nI_m1 (by omega), ht⟩]
  · rw [if_neg (fun z => ht z.2), if_neg (fun z => ht z.2)]
theorem dcd_s (h1 : g 1 < 65536) : ∀ n, ((fl n (dcF f g p d) (lH f g p d (-1), -1)).1 ≤ lH f g p d (-1)) ∧ ((fl n (dcF f g p d) (lH f g p d (-1), -1)).2 = -1 ∨ ∃ j, j < n ∧ (fl n (dcF f g p d) (lH f g p d (-1), -1)).2 = nI j ∧ isTh f (nI j) d = true)
  | 0 => ⟨Int32.le_refl _, Or.inl rfl⟩
  | n + 1 => by
    obtain ⟨k1, k2⟩ := dcd_s h1 n
    have e : fl (n + 1) (dcF f g p d) (lH f g p d (-1), -1) = dcF f g p d n (fl n (dcF f g p d) (lH f g p d (-1), -1)) := rfl
    rw [e]
    generalize fl n (dcF f g p d) (lH f g p d (-1), -1) = st at k1 k2 ⊢
    unfold dcF
    by_cases hc : lH f g p d (nI n) < st.1
    · rw [if_pos hc]
      refine ⟨Int32.le_of_lt (Int32.lt_of_lt_of_le hc k1), Or.inr ⟨n, Nat.lt_succ_self n, rfl, ?_⟩⟩
      by_cases ht : isTh f (nI n) d = true
      · exact ht
      · exfalso
        rw [lH_no ht h1] at hc
        exact Int32.lt_irrefl (Int32.lt_of_lt_of_le hc k1)
    · rw [if_neg hc]
      refine ⟨k1, k2.imp id ?_⟩
      rintro ⟨j, j1, j2⟩
      exact ⟨j, by omega, j2⟩
theorem dcd_c (h1 : g 1 < 65536) : dcd f g p d = -1 ∨ ∃ j, j < g 1 ∧ dcd f g p d = nI j ∧ isTh f (nI j) d = true := (dcd_s h1 (g 1)).2
end SPC
