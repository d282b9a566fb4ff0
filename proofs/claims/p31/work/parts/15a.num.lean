/-! ===== the law's numbers, and small sets ===== -/
def bel (v n : Int32) : Int32 := (v &&& 2147483647) - (v &&& 2147483647) / n * n
theorem bel_ex (v : Int32) {N : Nat} (h1 : 0 < N) (h2 : N < 65536) : ∃ r, r < N ∧ bel v (nI N) = nI r := by
  obtain ⟨j, hj, e⟩ := pk_andE v (m := 2147483647) 31 (by decide)
  refine ⟨j % N, Nat.mod_lt _ h1, ?_⟩
  unfold bel
  rw [e, pk_rem hj h1 (by omega)]
/-- the script's numbers, and what the law takes behind them -/
def ce (G : GT) (k : Nat) : Int32 := if k < G.2.2.2.2.1 then G.2.2.2.2.2 k else 790386105 * nI (k + 3)
theorem i32_of {x : Int32} {n : Nat} (h : x.toInt = n) (hn : n < 65536) : x = nI n := Int32.toInt_inj.mp (by rw [znI hn]; exact h)
theorem zm1 : (-1 : Int32).toInt = -1 := by decide
theorem nI_m1 {n : Nat} (h : n < 65536) : ¬ nI n = -1 := fun z => by
  have h9 := congrArg Int32.toInt z
  rw [znI h, zm1] at h9
  omega
theorem m1_lt : (-1 : Int32) < 0 := by decide
theorem m1_nI {n : Nat} (h : n < 65536) : (-1 : Int32) < nI n := zlt.mpr (by rw [znI h, zm1]; omega)
section BITS
variable {b : Nat → Bool} {n i : Nat}
theorem b4_all (b : Nat → Bool) : ∀ j, j < 4 → b j = b4 (b 0) (b 1) (b 2) (b 3) j := fun j hj => by
  have h : j = 0 ∨ j = 1 ∨ j = 2 ∨ j = 3 := by omega
  rcases h with rfl | rfl | rfl | rfl <;> rfl
theorem mk_b4 (b : Nat → Bool) (hn : n ≤ 4) : mk4 n b = mk4 n (b4 (b 0) (b 1) (b 2) (b 3)) := fl_cg fun j hj z => by rw [b4_all b j (by omega)]
theorem mk_fin1 : ∀ x y z w : Bool, ∀ n, n < 5 → ∀ i, i < n → (mk4 n (b4 x y z w) >>> (nI i &&& 31)) &&& nI 1 = if b4 x y z w i = true then nI 1 else nI 0 := by decide +kernel
theorem mk_fin2 : ∀ x y z w : Bool, ∀ n, n < 5 → 0 ≤ mk4 n (b4 x y z w) ∧ mk4 n (b4 x y z w) < nI 1 <<< (nI n &&& 31) := by decide +kernel
theorem mk_fin3 : ∀ x y z w : Bool, ∀ n, n < 5 → (mk4 n (b4 x y z w) = 0 ↔ ∀ i, i < n → ¬ b4 x y z w i = true) := by decide +kernel
theorem mk_bit (hn : n ≤ 4) (hi : i < n) : (mk4 n b >>> (nI i &&& 31)) &&& nI 1 = if b i = true then nI 1 else nI 0 := by
  rw [mk_b4 b hn, mk_fin1 _ _ _ _ n (by omega) i hi, ← b4_all b i (by omega)]
theorem mk_lt (hn : n ≤ 4) : 0 ≤ mk4 n b ∧ mk4 n b < nI 1 <<< (nI n &&& 31) := by
  rw [mk_b4 b hn]
  exact mk_fin2 _ _ _ _ n (by omega)
theorem mk_z (hn : n ≤ 4) : mk4 n b = 0 ↔ ∀ i, i < n → ¬ b i = true := by
  rw [mk_b4 b hn, mk_fin3 _ _ _ _ n (by omega)]
  constructor
  · intro h i hi
    rw [b4_all b i (by omega)]
    exact h i hi
  · intro h i hi
    rw [← b4_all b i (by omega)]
    exact h i hi
theorem mk_p (hn : n ≤ 4) (hi : i < n) (h : b i = true) : 0 < mk4 n b := by
  have h0 := zle.mp (mk_lt (b := b) hn).1
  refine zlt.mpr ?_
  rw [z0] at h0 ⊢
  have h1 : ¬ (mk4 n b).toInt = 0 := fun z => (mk_z hn).mp (Int32.toInt_inj.mp (z.trans z0.symm)) i hi h
  omega
theorem bad_t (h : b n = true) : mk4 n b ||| (nI 1 <<< (nI n &&& 31)) = mk4 (n + 1) b := by
  show _ = if b n = true then mk4 n b ||| (1 <<< (nI n &&& 31)) else mk4 n b
  rw [if_pos h]
  rfl
theorem bad_f (h : ¬ b n = true) : mk4 n b ||| nI 0 = mk4 (n + 1) b := by
  show _ = if b n = true then mk4 n b ||| (1 <<< (nI n &&& 31)) else mk4 n b
  rw [if_neg h, nI_0]
  exact Int32.or_zero
end BITS
/-! what isn't refused -/
theorem ka_n {k lo hi : Nat} {L M : Int32} (hL : nI lo = L) (hM : nI hi = M) (h1 : lo ≤ k) (h2 : k ≤ hi) (h3 : hi < 65536) : koArg (nI k) L M = none := by
  subst hL hM
  exact koArg_nI h1 h2 (by omega)
theorem ka_z {v lo hi : Int32} (h1 : lo.toInt ≤ v.toInt) (h2 : v.toInt ≤ hi.toInt) : koArg v lo hi = none := by
  unfold koArg
  rw [if_neg (fun z => by have := zlt.mp z; omega), if_neg (fun z => by have := zlt.mp z; omega)]
theorem k_day {d : Nat} (h : d ≤ 399) : koArg (nI d) 0 399 = none := ka_n (lo := 0) (hi := 399) rfl rfl (Nat.zero_le _) h (by decide)
theorem k_cat {c : Nat} (h : c ≤ 3) : koArg (nI c) 0 3 = none := ka_n (lo := 0) (hi := 3) rfl rfl (Nat.zero_le _) h (by decide)
theorem k_man {c : Nat} (h : c ≤ 19) : koArg (nI c) 0 19 = none := ka_n (lo := 0) (hi := 19) rfl rfl (Nat.zero_le _) h (by decide)
theorem k_ix {i n : Nat} (h : i < n) (hn : n < 65536) : koIx (nI i) n = none := koIx_nI h (by omega)
theorem kOr_nn {a b : Option String} (ha : a = none) (hb : b = none) : kOr a b = none := by rw [ha, hb]; rfl
theorem k_pl {x y : Int32} {a : Nat} {b : Int32} (hx : -20 ≤ x.toInt ∧ x.toInt ≤ 60) (hy : -9 ≤ y.toInt ∧ y.toInt ≤ 9) (ha : a ≤ 399) (hb : b = -1 ∨ ∃ q, b = nI q ∧ a ≤ q ∧ q ≤ 399) : koPl x y (nI a) b = none := by
  have e1 : (-20 : Int32).toInt = -20 := by decide
  have e2 : (60 : Int32).toInt = 60 := by decide
  have e3 : (-9 : Int32).toInt = -9 := by decide
  have e4 : (9 : Int32).toInt = 9 := by decide
  unfold koPl
  refine kOr_nn (ka_z (by omega) (by omega)) (kOr_nn (ka_z (by omega) (by omega)) (kOr_nn (k_day ha) ?_))
  rcases hb with hb | ⟨q, rfl, h1, h2⟩
  · rw [if_pos hb]
  · rw [if_neg (nI_m1 (by omega))]
    exact ka_n (lo := a) (hi := 399) rfl rfl h1 h2 (by decide)
theorem k_ti {g : Nat → Nat} {a b : Nat} (h0 : g 0 ≤ a) (h1 : a ≤ b) (h2 : b ≤ 399) : koTime g (nI a) (nI b) = none := by
  unfold koTime
  exact kOr_nn (ka_n (lo := g 0) (hi := 399) rfl rfl h0 (by omega) (by decide)) (ka_n (lo := a) (hi := 399) rfl rfl h1 h2 (by decide))
theorem k_nl {g : Nat → Nat} (h : g 5 < 16) : koNL g = none := by
  unfold koNL
  exact if_neg (nI_ge (b := 16) h (by decide))
/-! what many() answers -/
section MANY
variable {f : Nat → Nat → Int32} {g : Nat → Nat}
theorem my_0 : mny f g (nI 0) = nI (g 1) := by
  unfold mny
  rw [if_neg (by decide), if_neg (by decide), if_neg (by decide), if_pos (by decide)]
theorem my_1 : mny f g (nI 1) = nI (g 0) := by
  unfold mny
  rw [if_neg (by decide), if_neg (by decide), if_neg (by decide), if_neg (by decide), if_pos (by decide)]
theorem my_3 : mny f g (nI 3) = nI (g 4) := by
  unfold mny
  rw [if_neg (by decide), if_neg (by decide), if_neg (by decide), if_neg (by decide), if_neg (by decide), if_neg (by decide), if_pos (by decide)]
theorem my_4 : mny f g (nI 4) = nI (g 5) := by
  unfold mny
  rw [if_neg (by decide), if_neg (by decide), if_neg (by decide), if_neg (by decide), if_neg (by decide), if_neg (by decide), if_neg (by decide), if_pos (by decide)]
theorem my_6 : mny f g (nI 6) = mk4 3 (fun a => isGd f (nI a) (nI (g 0))) := by
  unfold mny
  rw [if_neg (by decide), if_neg (by decide), if_neg (by decide), if_neg (by decide), if_neg (by decide), if_neg (by decide), if_neg (by decide), if_neg (by decide), if_neg (by decide), if_pos (by decide)]
  rfl
theorem my_7 : mny f g (nI 7) = mk4 (g 3) (fun j => isUn f g (nI j) (nI (g 0))) := by
  unfold mny
  rw [if_neg (by decide), if_neg (by decide), if_neg (by decide), if_neg (by decide), if_neg (by decide), if_neg (by decide), if_neg (by decide), if_neg (by decide), if_neg (by decide), if_neg (by decide), if_pos (by decide)]
  rfl
theorem my_8 : mny f g (nI 8) = nI (g 7) := by
  unfold mny
  rw [if_neg (by decide), if_neg (by decide), if_neg (by decide), if_neg (by decide), if_neg (by decide), if_neg (by decide), if_neg (by decide), if_neg (by decide), if_neg (by decide), if_neg (by decide), if_neg (by decide)]
theorem my_9 : ∀ a, a < 3 → mny f g (nI (9 + a)) = f 16 a := fun a ha => by
  unfold mny
  have e : nI (9 + a) - 9 = nI a := by rw [show (9 : Int32) = nI 9 from rfl, pk_sub (by omega)]; congr 1; omega
  rw [if_neg (fun z => z (nI_lt (b := 16) (by omega) (by decide))), if_neg (fun z => z (nI_lt (b := 12) (by omega) (by decide))), if_pos (show ¬ nI (9 + a) < (9 : Int32) from nI_nlt (b := 9) (by omega) (by omega)), e, rowAt_in ha (by decide)]
theorem my_12 : ∀ a, a < 4 → mny f g (nI (12 + a)) = f 28 a := fun a ha => by
  unfold mny
  have e : nI (12 + a) - 12 = nI a := by rw [show (12 : Int32) = nI 12 from rfl, pk_sub (by omega)]; congr 1; omega
  rw [if_neg (fun z => z (nI_lt (b := 16) (by omega) (by decide))), if_pos (show ¬ nI (12 + a) < (12 : Int32) from nI_nlt (b := 12) (by omega) (by omega)), e, rowAt_in ha (by decide)]
theorem my_16 : ∀ a, a < 4 → mny f g (nI (16 + a)) = f 29 a := fun a ha => by
  unfold mny
  have e : nI (16 + a) - 16 = nI a := by rw [show (16 : Int32) = nI 16 from rfl, pk_sub (by omega)]; congr 1; omega
  rw [if_pos (show ¬ nI (16 + a) < (16 : Int32) from nI_nlt (b := 16) (by omega) (by omega)), e, rowAt_in ha (by decide)]
end MANY
