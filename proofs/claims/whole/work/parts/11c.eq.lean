/-! ===== class and reference agree: answers ===== -/
section EQA
variable {f : Nat → Nat → Int32} {g : Nat → Nat} {i : Nat} {d w : Int32}
theorem dcd_eq (h : LI f g) (hi : i < g 3) : dcd f g (nI i) d = mDc f g i d := by
  unfold dcd mDc
  rw [lH_eq h hi]
  refine congrArg Prod.snd (fl_cg fun j _ z => ?_)
  unfold dcF mdF
  rw [lH_eq h hi]
theorem uSet_eq (h : LI f g) : uSet f g = mBa f g := fl_cg fun j hj z => by rw [isUn_eq h hj]
theorem goOn_eq : goOn f d = mGo f d := fl_cg fun j hj z => by
  have e : isGd f (nI j) d = mGd f j d := by
    unfold isGd mGd
    rw [rowAt_in hj (by decide)]
  rw [e]
theorem acOn_eq (h : LI f g) : acOn f (g 5) (nI (g 0)) = mCn f g := fl_cg fun j hj z => by rw [isAc_eq h hj (Nat.le_refl _)]
theorem mis_eq (h : LI f g) {c : Nat} (hc : c < 4) : mis f g (nI c) = mMi f g c := fl_cg fun j hj z => by rw [hBl_eq h hj hc, hIF_eq h hj]
theorem uOn_eq (h : LI f g) (hi : i < g 3) : ∀ n k, uOn f g (nI i) n k = mUL f g i n k
  | 0, _ => rfl
  | n + 1, k => by
    have e1 : uOn f g (nI i) (n + 1) k = if isUn f g (nI i) (nI (g 0 + k)) = true then nI (g 0 + k) else uOn f g (nI i) n (k + 1) := rfl
    have e2 : mUL f g i (n + 1) k = if mUn f g i (nI (g 0 + k)) = true then nI (g 0 + k) else mUL f g i n (k + 1) := rfl
    rw [e1, e2, isUn_eq h hi, uOn_eq h hi n]
theorem rFL_eq (h : LI f g) (hi : i < g 3) : rFL f g (nI i) = mRL f g i := fl_cg fun j _ z => by rw [isUn_eq h hi, lH_eq h hi, hOn_eq h]
theorem rFo_eq (h : LI f g) (hi : i < g 3) : rFo f g (nI i) = mRF f g i := by
  unfold rFo mRF
  rw [rFL_eq h hi]
theorem ofOb_eq {k : Nat} (h : LI f g) (hk : k < g 1) : ofOb f (nI k) w = mOb f k w := by
  have hg1 := h.1.2.1
  unfold ofOb mOb
  rw [rowAt_in (show k < 12 by omega) (by decide), rowAt_in (show k < 12 by omega) (by decide), rowAt_in (show k < 12 by omega) (by decide), rowAt_in (show k < 12 by omega) (by decide), rowAt_in (show k < 12 by omega) (by decide)]
theorem ofNo_eq {k : Nat} (h : LI f g) (hk : k < g 5) : ofNo f g (nI k) w = mOn f g k w := by
  have hg5 := h.1.2.2.2.2.1
  unfold ofNo mOn
  rw [isAc_eq h hk (Nat.le_refl _), rowAt_in (show k < 16 by omega) (by decide), rowAt_in (show k < 16 by omega) (by decide), rowAt_in (show k < 16 by omega) (by decide), rowAt_in (show k < 16 by omega) (by decide), rowAt_in (show k < 16 by omega) (by decide)]
theorem nsub {a b : Nat} {M : Int32} (hM : nI b = M) (h : b ≤ a) : nI a - M = nI (a - b) := by rw [← hM, pk_sub h]
theorem nl_ {a b : Nat} {M : Int32} (hM : nI b = M) (ha : a < 65536) (hb : b < 65536) : nI a < M ↔ a < b := by rw [← hM, nI_ltI (by omega) (by omega)]
theorem ne_ {a b : Nat} {M : Int32} (hM : nI b = M) (ha : a < 65536) (hb : b < 65536) : nI a = M ↔ a = b := by rw [← hM, nI_eq (by omega) (by omega)]
theorem mny_eq {k : Nat} (h : LI f g) (hk : k < 20) : mny f g (nI k) = mMa f g k := by
  unfold mny mMa
  rw [uSet_eq h, goOn_eq, acOn_eq h]
  have a16 := nl_ (a := k) (b := 16) (M := 16) (by decide) (by omega) (by decide)
  have a12 := nl_ (a := k) (b := 12) (M := 12) (by decide) (by omega) (by decide)
  have a9 := nl_ (a := k) (b := 9) (M := 9) (by decide) (by omega) (by decide)
  by_cases h16 : 15 < k
  · rw [if_pos (fun z => by have := a16.mp z; omega), if_pos h16, nsub (b := 16) (by decide) (by omega), rowAt_in (by omega) (by decide)]
  · rw [if_neg (fun z => z (a16.mpr (by omega))), if_neg h16]
    by_cases h12 : 11 < k
    · rw [if_pos (fun z => by have := a12.mp z; omega), if_pos h12, nsub (b := 12) (by decide) (by omega), rowAt_in (by omega) (by decide)]
    · rw [if_neg (fun z => z (a12.mpr (by omega))), if_neg h12]
      by_cases h9 : 8 < k
      · rw [if_pos (fun z => by have := a9.mp z; omega), if_pos h9, nsub (b := 9) (by decide) (by omega), rowAt_in (by omega) (by decide)]
      · rw [if_neg (fun z => z (a9.mpr (by omega))), if_neg h9]
        have hk9 : k = 0 ∨ k = 1 ∨ k = 2 ∨ k = 3 ∨ k = 4 ∨ k = 5 ∨ k = 6 ∨ k = 7 ∨ k = 8 := by omega
        rcases hk9 with rfl | rfl | rfl | rfl | rfl | rfl | rfl | rfl | rfl <;> rfl
theorem f_cat0 (h : Int32) : fCat h 0 = h := by
  unfold fCat
  by_cases e : h = -1
  · rw [if_pos e, e]
  · rw [if_neg e]
    have : (10 * 0 : Int32) = 0 := by decide
    rw [this, Int32.add_zero]
theorem dg_eq (h : LI f g) : dg5 f g = md5 f g := by
  have e1 : dg1 f g = md1 f g := fl_cg fun j hj z => by rw [mny_eq h hj]
  have e2 : dg2 f g = md2 f g := by
    unfold dg2 md2
    rw [e1]
    exact fl_cg fun k hk z => fl_cg fun w hw y => by rw [ofOb_eq h hk]
  have e3 : dg3 f g = md3 f g := by
    unfold dg3 md3
    rw [e2]
    refine fl_cg fun p hp z => ?_
    unfold dg3P md3P
    have e0 : (10 * 0 : Int32) = 0 := by decide
    rw [lH_eq h hp, e0, Int32.add_zero, f_cat0, hIF_eq h hp, hOn_eq h, hOn_eq h, dcd_eq h hp, uOn_eq h hp, rFo_eq h hp]
  have e4 : dg4 f g = md4 f g := by
    unfold dg4 md4
    rw [e3]
    exact fl_cg fun k hk z => fl_cg fun w hw y => by rw [ofNo_eq h hk]
  unfold dg5 md5
  rw [e4]
  refine fl_cg fun c hc z => ?_
  show fl (g 3) (fun p d => sd d (fCat (hBl f g (nI c) (nI p) (nI (g 0))) 1)) (sd z (mis f g (nI c))) = _
  rw [mis_eq h hc]
  exact fl_cg fun p hp y => by rw [hBl_eq h hp hc]
theorem amH_eq (h : LI f g) (hi : i < g 3) : amH f g (nI i) = mAH f g i := fl_cg fun j _ z => by rw [lH_eq h hi]
theorem suD_eq (h : LI f g) : suD f g d = fl (g 3) (fun j s => s + mLH f g j d (-1)) 0 := fl_cg fun j hj z => by rw [lH_eq h hj]
theorem li_now (h : LI f g) {n : Nat} (h1 : g 0 ≤ n) (hn : n ≤ 399) : LI f (gset g 0 n) := by
  obtain ⟨⟨a0, a1, a2, a3, a4, a5⟩, b1, b2, b3, b4, b5, c1, c2, c3⟩ := h
  refine ⟨⟨hn, a1, a2, a3, a4, ?_⟩, b1, b2, b3, b4, b5, fun j hj h3 => ⟨Int32.le_trans (c1 j hj h3).1 (nI_le (by show g 0 ≤ n; omega) (by show n < 2 ^ 31; omega)), (c1 j hj h3).2⟩, c2, c3⟩
  show g 7 ≤ 63 * n
  omega
/-- how many bits are set in a set of at most four -/
def mk4 (n : Nat) (b : Nat → Bool) : Int32 := fl n (fun j s => if b j = true then s ||| (1 <<< (nI j &&& 31)) else s) 0
def ct4 (n : Nat) (b : Nat → Bool) : Nat := fl n (fun j s => if b j = true then s + 1 else s) 0
def b4 (x y z w : Bool) (j : Nat) : Bool := if j = 0 then x else if j = 1 then y else if j = 2 then z else w
theorem bc4_fin : ∀ x y z w : Bool, ∀ n, n < 5 → cnt (bcI (mk4 n (b4 x y z w))) = ct4 n (b4 x y z w) := by decide +kernel
theorem bc4_eq (b : Nat → Bool) {n : Nat} (hn : n ≤ 4) : cnt (bcI (mk4 n b)) = ct4 n b := by
  have e : ∀ j, j < 4 → b j = b4 (b 0) (b 1) (b 2) (b 3) j := fun j hj => by
    have h : j = 0 ∨ j = 1 ∨ j = 2 ∨ j = 3 := by omega
    rcases h with rfl | rfl | rfl | rfl <;> rfl
  have e1 : mk4 n b = mk4 n (b4 (b 0) (b 1) (b 2) (b 3)) := fl_cg fun j hj z => by rw [e j (by omega)]
  have e2 : ct4 n b = ct4 n (b4 (b 0) (b 1) (b 2) (b 3)) := fl_cg fun j hj z => by rw [e j (by omega)]
  rw [e1, e2]
  exact bc4_fin _ _ _ _ n (by omega)
theorem psT_eq (h : LI f g) : ∀ n, g 0 + n ≤ 399 → psT f g n = mPs f g n
  | 0, _ => rfl
  | n + 1, hn => by
    have ih := psT_eq h n (by omega)
    have hL := li_now h (n := g 0 + (n + 1)) (by omega) hn
    show psT f g n + cnt (bcI (uSet f (gset g 0 (g 0 + (n + 1))))) = mPs f g n + mPi f (gset g 0 (g 0 + (n + 1))) (g 3)
    rw [ih, uSet_eq hL]
    exact congrArg (mPs f g n + ·) (bc4_eq (fun j => mUn f (gset g 0 (g 0 + (n + 1))) j (nI ((gset g 0 (g 0 + (n + 1))) 0))) (n := g 3) h.1.2.2.1)
end EQA
