/-! ===== amendments; permits; the mean ===== -/
section AMP
variable {f f' : Nat → Nat → Int32} {g g' : Nat → Nat} {i : Nat} {d p x y : Int32}
theorem am_d (n : Nat) : n + 14 + (28 - (n + 14) % 28) % 28 = (n + 41) / 28 * 28 := by omega
theorem am_b (h : LI f g) (hi : i < g 3) (s : Nat) : ∀ n, (0 ≤ (fl n (fun j h => imax h (lH f g (nI i) (nI (s + j)) (-1))) 0).toInt ∧ (fl n (fun j h => imax h (lH f g (nI i) (nI (s + j)) (-1))) 0).toInt ≤ 1410) ∧ (0 < n → 200 ≤ (fl n (fun j h => imax h (lH f g (nI i) (nI (s + j)) (-1))) 0).toInt)
  | 0 => by
    refine ⟨?_, fun h => absurd h (Nat.lt_irrefl 0)⟩
    show 0 ≤ (0 : Int32).toInt ∧ (0 : Int32).toInt ≤ 1410
    rw [z0]; omega
  | n + 1 => by
    obtain ⟨k1, -⟩ := am_b h hi s n
    have e : fl (n + 1) (fun j h => imax h (lH f g (nI i) (nI (s + j)) (-1))) 0 = imax (fl n (fun j h => imax h (lH f g (nI i) (nI (s + j)) (-1))) 0) (lH f g (nI i) (nI (s + n)) (-1)) := rfl
    rw [e, zmax]
    obtain ⟨q, q1, q2, q3⟩ := lH_q h hi (nI (s + n)) (-1)
    rw [q3, znI (by omega)]
    omega
theorem amH_b (h : LI f g) (hi : i < g 3) (hf : frN g ≤ 399) : ∃ q, 200 ≤ q ∧ q ≤ 1410 ∧ amH f g (nI i) = nI q := by
  have k : (0 ≤ (amH f g (nI i)).toInt ∧ (amH f g (nI i)).toInt ≤ 1410) ∧ (0 < min 28 (400 - frN g) → 200 ≤ (amH f g (nI i)).toInt) := am_b h hi (frN g) (min 28 (400 - frN g))
  have k3 := k.2 (by omega)
  have k1 := k.1
  generalize amH f g (nI i) = r at *
  exact ⟨r.toInt.toNat, by omega, by omega, i32_of (by omega) (by omega)⟩
theorem hOn_o : ∀ n, n ≤ 20 → (∀ j, j < n → f' 19 j = f 19 j ∧ f' 20 j = f 20 j ∧ f' 21 j = f 21 j) → hOn f' p d n = hOn f p d n
  | 0, _, _ => rfl
  | n + 1, hn, h => by
    have e1 : hOn f p d (n + 1) = if rowAt 20 (f 19) (nI n) = p ∧ ¬ d < rowAt 20 (f 20) (nI n) then rowAt 20 (f 21) (nI n) else hOn f p d n := rfl
    have e2 : hOn f' p d (n + 1) = if rowAt 20 (f' 19) (nI n) = p ∧ ¬ d < rowAt 20 (f' 20) (nI n) then rowAt 20 (f' 21) (nI n) else hOn f' p d n := rfl
    obtain ⟨h1, h2, h3⟩ := h n (Nat.lt_succ_self n)
    rw [e1, e2, rowAt_in (show n < 20 by omega) (by decide), rowAt_in (show n < 20 by omega) (by decide), rowAt_in (show n < 20 by omega) (by decide), rowAt_in (show n < 20 by omega) (by decide), rowAt_in (show n < 20 by omega) (by decide), rowAt_in (show n < 20 by omega) (by decide), h1, h2, h3, hOn_o n (by omega) (fun j hj => h j (by omega))]
/-- the chart behind an amendment -/
theorem am_on (hl : g 4 < 20) {w : Int32} {F D : Nat} (hD : D < 65536) (h : F ≤ D) : hOn (amAdd f g (nI i) (nI F) w) (nI i) (nI D) (gset g 4 (g 4 + 1) 4) = w := by
  show hOn (amAdd f g (nI i) (nI F) w) (nI i) (nI D) (g 4 + 1) = w
  have e2 : hOn (amAdd f g (nI i) (nI F) w) (nI i) (nI D) (g 4 + 1) = if rowAt 20 (amAdd f g (nI i) (nI F) w 19) (nI (g 4)) = nI i ∧ ¬ nI D < rowAt 20 (amAdd f g (nI i) (nI F) w 20) (nI (g 4)) then rowAt 20 (amAdd f g (nI i) (nI F) w 21) (nI (g 4)) else hOn (amAdd f g (nI i) (nI F) w) (nI i) (nI D) (g 4) := rfl
  rw [e2, rowAt_in hl (by decide), rowAt_in hl (by decide), rowAt_in hl (by decide), amAdd_19 hl, amAdd_20 hl, amAdd_21 hl, if_pos ⟨rfl, nI_nlt h (by omega)⟩]
theorem am_off (hl : g 4 < 20) {w : Int32} {F D : Nat} (hF : F < 65536) (h : D < F) : hOn (amAdd f g (nI i) (nI F) w) (nI i) (nI D) (gset g 4 (g 4 + 1) 4) = hOn f (nI i) (nI D) (g 4) := by
  show hOn (amAdd f g (nI i) (nI F) w) (nI i) (nI D) (g 4 + 1) = _
  have e2 : hOn (amAdd f g (nI i) (nI F) w) (nI i) (nI D) (g 4 + 1) = if rowAt 20 (amAdd f g (nI i) (nI F) w 19) (nI (g 4)) = nI i ∧ ¬ nI D < rowAt 20 (amAdd f g (nI i) (nI F) w 20) (nI (g 4)) then rowAt 20 (amAdd f g (nI i) (nI F) w 21) (nI (g 4)) else hOn (amAdd f g (nI i) (nI F) w) (nI i) (nI D) (g 4) := rfl
  rw [e2, rowAt_in hl (by decide), rowAt_in hl (by decide), amAdd_19 hl, amAdd_20 hl, if_neg (fun z => z.2 (nI_lt h (by omega)))]
  exact hOn_o (g 4) (by omega) fun j hj => ⟨amAdd_o hl (by omega), amAdd_o hl (by omega), amAdd_o hl (by omega)⟩
theorem am_lH {v w : Int32} : lH (amAdd f g p v w) (gset g 4 (g 4 + 1)) x d y = lH f g x d y := lH_cg (fun k hk => amAdd_ne (Or.inl hk)) rfl
/-! permits -/
theorem prm_mk {t a b : Int32} : prm f g x y t a b = mk4 (g 3) (fun j => decide (hTK f g (nI j) (cnt a) (laOf b) < nWB f (nI j) x y t)) := fl_cg fun j hj z => by
  by_cases hc : hTK f g (nI j) (cnt a) (laOf b) < nWB f (nI j) x y t
  · rw [if_pos hc, if_pos (decide_eq_true hc)]
  · rw [if_neg hc, if_neg (fun z => hc (of_decide_eq_true z))]
theorem prm_z (h : LI f g) (hx : -20 ≤ x.toInt ∧ x.toInt ≤ 60) (hy : -9 ≤ y.toInt ∧ y.toInt ≤ 9) {t : Nat} (ht : t ≤ 999) {a b : Int32} : prm f g x y (nI t) a b = 0 ↔ gd f g x y (cnt a) (laOf b) t := by
  rw [prm_mk, mk_z h.1.2.2.1]
  refine forall_congr' fun j => forall_congr' fun hj => ?_
  rw [decide_eq_true_iff, nWB_eq h hj, hTK_eq h hj (nwb_b h hj hx hy (by rw [znI (by omega)]; omega))]
theorem prm_p (h : LI f g) {t a b : Int32} (hn : ¬ prm f g x y t a b = 0) : 0 < prm f g x y t a b := by
  rw [prm_mk] at hn ⊢
  have h0 := zle.mp (mk_lt (b := fun j => decide (hTK f g (nI j) (cnt a) (laOf b) < nWB f (nI j) x y t)) h.1.2.2.1).1
  refine zlt.mpr ?_
  rw [z0] at h0 ⊢
  have h1 : ¬ (mk4 (g 3) (fun j => decide (hTK f g (nI j) (cnt a) (laOf b) < nWB f (nI j) x y t))).toInt = 0 := fun z => hn (Int32.toInt_inj.mp (z.trans z0.symm))
  omega
/-- the highest does no harm; a foot more does, and so does the highest of all -/
theorem hi_all (h : LI f g) (hx : -20 ≤ x.toInt ∧ x.toInt ≤ 60) (hy : -9 ≤ y.toInt ∧ y.toInt ≤ 9) {a b : Int32} : ∃ T, T ≤ 999 ∧ hiT f g x y a b = T ∧ prm f g x y (nI T) a b = 0 ∧ (T = 999 ∨ (T < 999 ∧ 0 < prm f g x y (nI (T + 1)) a b ∧ 0 < prm f g x y (nI 999) a b)) := by
  obtain ⟨h1, h2, h3⟩ := hiT_eq h (x := x) (y := y) (a := a) (b := b) hx hy
  refine ⟨hiT f g x y a b, h2, rfl, (prm_z h hx hy h2).mpr h1, ?_⟩
  by_cases e : hiT f g x y a b = 999
  · exact Or.inl e
  · have h4 := h3.resolve_left e
    refine Or.inr ⟨by omega, prm_p h (fun z => h4 ((prm_z h hx hy (by omega)).mp z)), prm_p h (fun z => ?_)⟩
    have h5 := (prm_z h hx hy (t := 999) (by omega)).mp z
    exact h4 fun i hi hh => h5 i hi (hrm_mono h hi hx hy (show hiT f g x y a b + 1 ≤ 999 by omega) (by decide) hh)
/-! the mean -/
theorem su_q (h : LI f g) (d : Int32) : ∀ n, n ≤ g 3 → ∃ q, 20 * n ≤ q ∧ q ≤ 141 * n ∧ fl n (fun j s => s + lH f g (nI j) d (-1)) 0 = nI (10 * q)
  | 0, _ => ⟨0, by omega, by omega, rfl⟩
  | n + 1, hn => by
    obtain ⟨q, q1, q2, q3⟩ := su_q h d n (by omega)
    obtain ⟨r, r1, r2, r3⟩ := lH_q h (i := n) (by omega) d (-1)
    have e : fl (n + 1) (fun j s => s + lH f g (nI j) d (-1)) 0 = fl n (fun j s => s + lH f g (nI j) d (-1)) 0 + lH f g (nI n) d (-1) := rfl
    refine ⟨q + r, by omega, by omega, ?_⟩
    rw [e, q3, r3, nI_add]
    congr 1; omega
theorem me_fin1 : ∀ q, q < 142 → 20 ≤ q → 0 ≤ Op.cmpValue (FP.dcmp (FP.ddiv (FP.i2d (nI (10 * q))) (FP.i2d (nI 1))) 4641240890982006784) .g := by decide +kernel
theorem me_fin2 : ∀ q, q < 283 → 40 ≤ q → 0 ≤ Op.cmpValue (FP.dcmp (FP.ddiv (FP.i2d (nI (10 * q))) (FP.i2d (nI 2))) 4641240890982006784) .g := by decide +kernel
theorem me_fin3 : ∀ q, q < 424 → 60 ≤ q → 0 ≤ Op.cmpValue (FP.dcmp (FP.ddiv (FP.i2d (nI (10 * q))) (FP.i2d (nI 3))) 4641240890982006784) .g := by decide +kernel
theorem me_fin4 : ∀ q, q < 565 → 80 ≤ q → 0 ≤ Op.cmpValue (FP.dcmp (FP.ddiv (FP.i2d (nI (10 * q))) (FP.i2d (nI 4))) 4641240890982006784) .g := by decide +kernel
theorem me_c (h : LI f g) (h1 : 1 ≤ g 3) (d : Int32) : 0 ≤ Op.cmpValue (FP.dcmp (mnD f g d) 4641240890982006784) .g := by
  have h3 := h.1.2.2.1
  obtain ⟨q, q1, q2, q3⟩ := su_q h d (g 3) (Nat.le_refl _)
  have e : suD f g d = nI (10 * q) := q3
  unfold mnD
  rw [if_pos (show (0 : Int32) < nI (g 3) from nI_lt (a := 0) (b := g 3) (by omega) (by omega)), e]
  generalize g 3 = n at *
  have hn : n = 1 ∨ n = 2 ∨ n = 3 ∨ n = 4 := by omega
  rcases hn with rfl | rfl | rfl | rfl
  · exact me_fin1 q (by omega) (by omega)
  · exact me_fin2 q (by omega) (by omega)
  · exact me_fin3 q (by omega) (by omega)
  · exact me_fin4 q (by omega) (by omega)
end AMP
