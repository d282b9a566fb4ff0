/-! ===== small facts at the law's branches ===== -/
section SMF
variable {f : Nat → Nat → Int32} {g : Nat → Nat} {k a : Nat} {d c : Int32}
theorem dm_c (q c : Nat) : nI (10 * q) + 10 * nI c = nI (10 * q + 10 * c) := by rw [show (10 : Int32) = nI 10 from rfl, pk_mul, nI_add]
theorem fc_n : fCat (-1) c = -1 := if_pos rfl
theorem fc_p {a c : Nat} (h : a < 65536) : fCat (nI a) (nI c) = nI (a + 10 * c) := by
  unfold fCat
  rw [if_neg (nI_m1 h), show (10 : Int32) = nI 10 from rfl, pk_mul, nI_add]
theorem un_bit (h3 : g 3 ≤ 4) (hk : k < g 3) : (mk4 (k + 1) (fun j => isUn f g (nI j) (nI (g 0))) >>> (nI k &&& 31)) &&& nI 1 = if isUn f g (nI k) (nI (g 0)) = true then nI 1 else nI 0 := mk_bit (by omega) (Nat.lt_succ_self k)
theorem un_t (h : isUn f g (nI k) (nI (g 0)) = true) : mk4 k (fun j => isUn f g (nI j) (nI (g 0))) ||| (nI 1 <<< (nI k &&& 31)) = mk4 (k + 1) (fun j => isUn f g (nI j) (nI (g 0))) := bad_t (b := fun j => isUn f g (nI j) (nI (g 0))) h
theorem un_f (h : ¬ isUn f g (nI k) (nI (g 0)) = true) : mk4 k (fun j => isUn f g (nI j) (nI (g 0))) ||| nI 0 = mk4 (k + 1) (fun j => isUn f g (nI j) (nI (g 0))) := bad_f (b := fun j => isUn f g (nI j) (nI (g 0))) h
theorem gd_bit (ha : a < 3) : (mk4 3 (fun j => isGd f (nI j) d) >>> (nI a &&& 31)) &&& nI 1 = if isGd f (nI a) d = true then nI 1 else nI 0 := mk_bit (by decide) ha
theorem gd_i (ha : a < 3) : isGd f (nI a) d = true ↔ ¬ f 16 a < d := by
  unfold isGd
  rw [decide_eq_true_iff, rowAt_in ha (by decide)]
theorem ob_3 (i : Int32) : ofOb f i (nI 3) = rowAt 12 (f 13) i := by
  unfold ofOb
  rw [if_neg (by decide), if_neg (by decide), if_neg (by decide), if_pos (by decide)]
theorem ob_4 (i : Int32) : ofOb f i (nI 4) = rowAt 12 (f 14) i := by
  unfold ofOb
  rw [if_neg (by decide), if_neg (by decide), if_neg (by decide), if_neg (by decide)]
theorem no_0 (i : Int32) : ofNo f g i (nI 0) = rowAt 16 (f 22) i := by
  unfold ofNo
  rw [if_pos (by decide)]
theorem no_3 (i : Int32) : ofNo f g i (nI 3) = rowAt 16 (f 25) i := by
  unfold ofNo
  rw [if_neg (by decide), if_neg (by decide), if_neg (by decide), if_pos (by decide)]
/-- what a crew is misled by, procedure by procedure -/
def mbF (f : Nat → Nat → Int32) (g : Nat → Nat) (c : Int32) : Nat → Bool := fun j => decide (¬ hBl f g c (nI j) (nI (g 0)) = -1 ∧ (hIF f g (nI j) (nI (g 0)) = -1 ∨ hBl f g c (nI j) (nI (g 0)) < hIF f g (nI j) (nI (g 0))))
theorem mis_mk : mis f g c = mk4 (g 3) (mbF f g c) := fl_cg fun j hj z => by
  unfold mbF
  by_cases hc : ¬ hBl f g c (nI j) (nI (g 0)) = -1 ∧ (hIF f g (nI j) (nI (g 0)) = -1 ∨ hBl f g c (nI j) (nI (g 0)) < hIF f g (nI j) (nI (g 0)))
  · rw [if_pos hc, if_pos (decide_eq_true hc)]
  · rw [if_neg hc, if_neg (fun z => hc (of_decide_eq_true z))]
theorem mb_bit (h3 : g 3 ≤ 4) (hk : k < g 3) : (mk4 (g 3) (mbF f g c) >>> (nI k &&& 31)) &&& nI 1 = if mbF f g c k = true then nI 1 else nI 0 := mk_bit h3 hk
end SMF
section SMG
variable {f : Nat → Nat → Int32} {g : Nat → Nat} {k c : Nat} {p x : Int32}
theorem ad_0 (x : Int32) : x + 10 * nI 0 = x := by
  rw [show (10 : Int32) * nI 0 = 0 by decide]
  exact Int32.add_zero x
/-- what is kept by a helper of the law -/
abbrev kpt (g : Nat → Nat) : (Nat → Nat → Int32) → (Nat → Nat) → Prop := fun f' g' => IV f' g' ∧ g' 0 = g 0 ∧ g' 3 = g 3 ∧ g' 7 = g 7
/-- one that loads and reads now believes what is in force, where the aid is good -/
theorem fl_b (e28 : f 28 c = nI (g 0)) (e29 : f 29 c = nI (g 5)) (hc : c < 4) (h0 : g 0 ≤ 399) (hg : isGd f (aidOf f p) (nI (g 0)) = true) : hBl f g (nI c) p (nI (g 0)) = hIF f g p (nI (g 0)) := by
  unfold hBl hIF
  rw [rowAt_in hc (by decide), rowAt_in hc (by decide), e28, e29, if_neg (nI_m1 (by omega)), if_neg (fun z => z hg)]
theorem mb_n {ci : Int32} (e : hBl f g ci (nI k) (nI (g 0)) = hIF f g (nI k) (nI (g 0))) (e2 : ¬ hIF f g (nI k) (nI (g 0)) = -1) : ¬ mbF f g ci k = true := fun z => by
  have h1 := (of_decide_eq_true z).2
  rw [e] at h1
  exact h1.elim e2 (fun y => Int32.lt_irrefl y)
theorem mb_p {ci ca : Int32} (e : hIF f g (nI k) (nI (g 0)) = -1) (e2 : ¬ fCat (hBl f g ci (nI k) (nI (g 0))) ca < 0) : mbF f g ci k = true := decide_eq_true ⟨fun z => e2 (by rw [z, fc_n]; exact m1_lt), Or.inl e⟩
end SMG
