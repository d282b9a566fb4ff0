/-! ===== class and reference agree: what is refused ===== -/
/-- the number by which a wrapper tells an exception -/
def ecd (L : List String) : Option String → Int32
  | none => 0
  | some E => nI (L.idxOf E + 1)
section EQK
variable {g : Nat → Nat} {f : Nat → Nat → Int32}
theorem koArg_e (v lo hi : Int32) : koArg v lo hi = if inB v lo hi = true then none else some xIAE := by
  unfold koArg inB
  by_cases h1 : v < lo
  · rw [if_pos h1, if_neg (fun z => (of_decide_eq_true z).1 h1)]
  · by_cases h2 : hi < v
    · rw [if_neg h1, if_pos h2, if_neg (fun z => (of_decide_eq_true z).2 h2)]
    · rw [if_neg h1, if_neg h2, if_pos (decide_eq_true ⟨h1, h2⟩)]
theorem ix_e {v : Int32} {n : Nat} (hn : n < 65536) : nI n ≤ v ↔ nI n - 1 < v := by
  have h1 : (1 : Int32).toInt = 1 := by decide
  have h2 : (nI n - 1).toInt = (n : Int) - 1 := by rw [zsub (by rw [znI hn]; omega) (by rw [h1]; omega), znI hn, h1]
  rw [zle, zlt, h2, znI hn]
  omega
theorem mNx_i {v : Int32} {n : Nat} : mNx v n = true ↔ ¬ inB v 0 (nI n - 1) = true := decide_eq_true_iff
theorem koIx_e {v : Int32} {n : Nat} (hn : n < 65536) : koIx v n = if mNx v n = true then some xIOB else none := by
  have h9 := ix_e (v := v) hn
  unfold koIx
  by_cases h1 : v < 0
  · rw [if_pos h1, if_pos (mNx_i.mpr fun z => (of_decide_eq_true z).1 h1)]
  · by_cases h2 : nI n ≤ v
    · rw [if_neg h1, if_pos h2, if_pos (mNx_i.mpr fun z => (of_decide_eq_true z).2 (h9.mp h2))]
    · rw [if_neg h1, if_neg h2, if_neg (fun z => mNx_i.mp z (decide_eq_true ⟨h1, fun y => h2 (h9.mpr y)⟩))]
theorem koIx_m {v M : Int32} {n : Nat} (hn : n < 65536) (hM : nI n - 1 = M) : koIx v n = if mNr v 0 M = true then some xIOB else none := by
  rw [koIx_e hn]
  unfold mNx mNr
  rw [hM]
theorem koIx_3 (v : Int32) : koIx v 3 = if mNr v 0 2 = true then some xIOB else none := koIx_m (by decide) (by decide)
theorem koIx_4 (v : Int32) : koIx v 4 = if mNr v 0 3 = true then some xIOB else none := koIx_m (by decide) (by decide)
theorem mNr_i {v lo hi : Int32} : mNr v lo hi = true ↔ ¬ inB v lo hi = true := decide_eq_true_iff
theorem koPl_e (x y a b : Int32) : koPl x y a b = if mNP x y a b = true then some xIAE else none := by
  unfold koPl
  rw [koArg_e, koArg_e, koArg_e, koArg_e]
  have hp : mNP x y a b = true ↔ (¬ inB x (-20) 60 = true ∨ ¬ inB y (-9) 9 = true ∨ mNr a 0 399 = true ∨ (¬ b = -1 ∧ ¬ inB b a 399 = true)) := decide_eq_true_iff
  rw [mNr_i] at hp
  by_cases h1 : inB x (-20) 60 = true
  · by_cases h2 : inB y (-9) 9 = true
    · by_cases h3 : inB a 0 399 = true
      · by_cases h4 : b = -1
        · rw [if_pos h1, if_pos h2, if_pos h3, if_pos h4, if_neg (fun z => by rcases hp.mp z with q | q | q | q; exact q h1; exact q h2; exact q h3; exact q.1 h4)]
          rfl
        · by_cases h5 : inB b a 399 = true
          · rw [if_pos h1, if_pos h2, if_pos h3, if_neg h4, if_pos h5, if_neg (fun z => by rcases hp.mp z with q | q | q | q; exact q h1; exact q h2; exact q h3; exact q.2 h5)]
            rfl
          · rw [if_pos h1, if_pos h2, if_pos h3, if_neg h4, if_neg h5, if_pos (hp.mpr (Or.inr (Or.inr (Or.inr ⟨h4, h5⟩))))]
            rfl
      · rw [if_pos h1, if_pos h2, if_neg h3, if_pos (hp.mpr (Or.inr (Or.inr (Or.inl h3))))]
        rfl
    · rw [if_pos h1, if_neg h2, if_pos (hp.mpr (Or.inr (Or.inl h2)))]
      rfl
  · rw [if_neg h1, if_pos (hp.mpr (Or.inl h1))]
    rfl
theorem koTime_e (a b : Int32) : koTime g a b = if mNT g a b = true then some xIAE else none := by
  unfold koTime
  rw [koArg_e, koArg_e]
  have hp : mNT g a b = true ↔ (¬ inB a (nI (g 0)) 399 = true ∨ ¬ inB b a 399 = true) := decide_eq_true_iff
  by_cases h1 : inB a (nI (g 0)) 399 = true
  · by_cases h2 : inB b a 399 = true
    · rw [if_pos h1, if_pos h2, if_neg (fun z => by rcases hp.mp z with q | q; exact q h1; exact q h2)]
      rfl
    · rw [if_pos h1, if_neg h2, if_pos (hp.mpr (Or.inr h2))]
      rfl
  · rw [if_neg h1, if_pos (hp.mpr (Or.inl h1))]
    rfl
theorem ful {n m : Nat} {M : Int32} (hM : nI m = M) (h : n ≤ m) (hm : m < 65536) : M ≤ nI n ↔ nI n = M := by
  rw [← hM, nI_leI (by omega) (by omega), nI_eq (by omega) (by omega)]
  omega
theorem koNL_e (h5 : g 5 ≤ 16) : koNL g = if mFu g = true then some xISE else none := by
  have h9 := ful (n := g 5) (m := 16) (M := 16) (by decide) h5 (by decide)
  have hp : mFu g = true ↔ nI (g 5) = 16 := decide_eq_true_iff
  unfold koNL
  by_cases h1 : 16 ≤ nI (g 5)
  · rw [if_pos h1, if_pos (hp.mpr (h9.mp h1))]
  · rw [if_neg h1, if_neg (fun z => h1 (h9.mpr (hp.mp z)))]
theorem eA_A : ecd [xIAE] (some xIAE) = 1 := by decide +kernel
theorem eB_B : ecd [xIOB] (some xIOB) = 1 := by decide +kernel
theorem eAS_A : ecd [xIAE, xISE] (some xIAE) = 1 := by decide +kernel
theorem eAS_S : ecd [xIAE, xISE] (some xISE) = 2 := by decide +kernel
theorem eBS_B : ecd [xIOB, xISE] (some xIOB) = 1 := by decide +kernel
theorem eBS_S : ecd [xIOB, xISE] (some xISE) = 2 := by decide +kernel
theorem eBA_B : ecd [xIOB, xIAE] (some xIOB) = 1 := by decide +kernel
theorem eBA_A : ecd [xIOB, xIAE] (some xIAE) = 2 := by decide +kernel
theorem eBAS_B : ecd [xIOB, xIAE, xISE] (some xIOB) = 1 := by decide +kernel
theorem eBAS_A : ecd [xIOB, xIAE, xISE] (some xIAE) = 2 := by decide +kernel
theorem eBAS_S : ecd [xIOB, xIAE, xISE] (some xISE) = 3 := by decide +kernel
theorem e_n {L : List String} : ecd L none = 0 := rfl
theorem k_obstacle (h1 : g 1 ≤ 12) (x y t a b : Int32) : ecd [xIAE, xISE] (kOr (koPl x y a b) (kOr (koArg t 0 999) (if 12 ≤ nI (g 1) then some xISE else none))) = tw2 (mNP x y a b = true ∨ ¬ inB t 0 999 = true) (nI (g 1) = 12) := by
  have h9 := ful (n := g 1) (m := 12) (M := 12) (by decide) h1 (by decide)
  rw [koPl_e, koArg_e]
  simp only [h9]
  by_cases h0 : mNP x y a b = true <;> by_cases h1 : inB t 0 999 = true <;> by_cases h2 : nI (g 1) = 12 <;> simp [tw2, kOr, eAS_A, eAS_S, e_n, h0, h1, h2]
theorem k_end (h1 : g 1 ≤ 12) (i : Int32) : ecd [xIOB, xISE] (kOr (koIx i (g 1)) (if ¬ rowAt 12 (f 14) i = -1 ∧ ¬ nI (g 0) < rowAt 12 (f 14) i then some xISE else none)) = tw2 (mNx i (g 1) = true) (¬ f 14 (cnt i) = -1 ∧ ¬ nI (g 0) < f 14 (cnt i)) := by
  rw [koIx_e (v := i) (n := g 1) (by omega)]
  by_cases h0 : mNx i (g 1) = true
  · simp [tw2, kOr, eBS_B, h0]
  · obtain ⟨k, hk, rfl⟩ := mNx_c h0 (by omega)
    rw [rowAt_in (show k < 12 by omega) (by decide), cnt_nI (by omega)]
    by_cases h2 : ¬ f 14 k = -1 ∧ ¬ nI (g 0) < f 14 k
    · rw [if_neg h0, if_pos h2]
      unfold tw2
      rw [if_neg h0, if_pos h2]
      exact eBS_S
    · rw [if_neg h0, if_neg h2]
      unfold tw2
      rw [if_neg h0, if_neg h2]
      rfl
theorem k_aid (i k : Int32) : ecd [xIOB, xIAE] (kOr (koIx i 3) (koArg k 0 2)) = tw2 (mNr i 0 2 = true) (¬ inB k 0 2 = true) := by
  rw [koIx_3, koArg_e]
  by_cases h0 : mNr i 0 2 = true <;> by_cases h1 : inB k 0 2 = true <;> simp [tw2, kOr, eBA_B, eBA_A, e_n, h0, h1]
theorem k_check (i d : Int32) : ecd [xIOB, xIAE] (kOr (koIx i 3) (koArg d 0 200)) = tw2 (mNr i 0 2 = true) (¬ inB d 0 200 = true) := by
  rw [koIx_3, koArg_e]
  by_cases h0 : mNr i 0 2 = true <;> by_cases h1 : inB d 0 200 = true <;> simp [tw2, kOr, eBA_B, eBA_A, e_n, h0, h1]
theorem k_procedure (h3 : g 3 ≤ 4) (i v : Int32) : ecd [xIOB, xIAE, xISE] (kOr (koIx i 3) (kOr (koArg v 10 40) (if 4 ≤ nI (g 3) then some xISE else none))) = tw3 (mNr i 0 2 = true) (¬ inB v 10 40 = true) (nI (g 3) = 4) := by
  have h9 := ful (n := g 3) (m := 4) (M := 4) (by decide) h3 (by decide)
  rw [koIx_3, koArg_e]
  simp only [h9]
  by_cases h0 : mNr i 0 2 = true <;> by_cases h1 : inB v 10 40 = true <;> by_cases h2 : nI (g 3) = 4 <;> simp [tw3, kOr, eBAS_B, eBAS_A, eBAS_S, e_n, h0, h1, h2]
theorem k_pass (d : Int32) : ecd [xIAE, xISE] (kOr (koArg d 1 60) (if 399 < nI (g 0) + d then some xISE else none)) = tw2 (¬ inB d 1 60 = true) (399 < nI (g 0) + d) := by
  rw [koArg_e]
  by_cases h0 : inB d 1 60 = true <;> by_cases h1 : 399 < nI (g 0) + d <;> simp [tw2, kOr, eAS_A, eAS_S, e_n, h0, h1]
theorem k_amend (h3 : g 3 ≤ 4) (h4 : g 4 ≤ 20) (i : Int32) : ecd [xIOB, xISE] (kOr (koIx i (g 3)) (if 20 ≤ nI (g 4) ∨ 399 < nI (frN g) then some xISE else none)) = tw2 (mNx i (g 3) = true) (nI (g 4) = 20 ∨ 399 < nI (frN g)) := by
  have h9 := ful (n := g 4) (m := 20) (M := 20) (by decide) h4 (by decide)
  rw [koIx_e (v := i) (n := g 3) (by omega)]
  simp only [h9]
  by_cases h0 : mNx i (g 3) = true <;> by_cases h1 : nI (g 4) = 20 <;> by_cases h2 : 399 < nI (frN g) <;> simp [tw2, kOr, eBS_B, eBS_S, e_n, h0, h1, h2]
theorem k_raise (h3 : g 3 ≤ 4) (h5 : g 5 ≤ 16) (i v a b : Int32) : ecd [xIOB, xIAE, xISE] (kOr (koIx i (g 3)) (kOr (koArg v 1 500) (kOr (koTime g a b) (koNL g)))) = tw3 (mNx i (g 3) = true) (¬ inB v 1 500 = true ∨ mNT g a b = true) (mFu g = true) := by
  rw [koIx_e (v := i) (n := g 3) (by omega), koArg_e, koTime_e, koNL_e h5]
  by_cases h0 : mNx i (g 3) = true <;> by_cases h1 : inB v 1 500 = true <;> by_cases h2 : mNT g a b = true <;> by_cases h3 : mFu g = true <;> simp [tw3, kOr, eBAS_B, eBAS_A, eBAS_S, e_n, h0, h1, h2, h3]
theorem k_out (h5 : g 5 ≤ 16) (i a b : Int32) : ecd [xIOB, xIAE, xISE] (kOr (koIx i 3) (kOr (koTime g a b) (koNL g))) = tw3 (mNr i 0 2 = true) (mNT g a b = true) (mFu g = true) := by
  rw [koIx_3, koTime_e, koNL_e h5]
  by_cases h0 : mNr i 0 2 = true <;> by_cases h1 : mNT g a b = true <;> by_cases h2 : mFu g = true <;> simp [tw3, kOr, eBAS_B, eBAS_A, eBAS_S, e_n, h0, h1, h2]
theorem k_close (h3 : g 3 ≤ 4) (h5 : g 5 ≤ 16) (i a b : Int32) : ecd [xIOB, xIAE, xISE] (kOr (koIx i (g 3)) (kOr (koTime g a b) (koNL g))) = tw3 (mNx i (g 3) = true) (mNT g a b = true) (mFu g = true) := by
  rw [koIx_e (v := i) (n := g 3) (by omega), koTime_e, koNL_e h5]
  by_cases h0 : mNx i (g 3) = true <;> by_cases h1 : mNT g a b = true <;> by_cases h2 : mFu g = true <;> simp [tw3, kOr, eBAS_B, eBAS_A, eBAS_S, e_n, h0, h1, h2]
theorem k_cancel (h5 : g 5 ≤ 16) (i : Int32) : ecd [xIOB, xISE] (kOr (koIx i (g 5)) (kOr (if rowAt 16 (f 22) i = 3 then some xISE else none) (koNL g))) = tw2 (¬ inB i 0 (nI (g 5) - 1) = true) (f 22 (cnt i) = 3 ∨ mFu g = true) := by
  rw [koIx_e (v := i) (n := g 5) (by omega), koNL_e h5]
  by_cases h0 : mNx i (g 5) = true
  · have h1 := mNx_i.mp h0
    rw [if_pos h0]
    unfold tw2
    rw [if_pos h1]
    exact eBS_B
  · have h1 : ¬ ¬ inB i 0 (nI (g 5) - 1) = true := fun z => h0 (mNx_i.mpr z)
    obtain ⟨k, hk, rfl⟩ := mNx_c h0 (by omega)
    rw [rowAt_in (show k < 16 by omega) (by decide), cnt_nI (by omega), if_neg h0]
    unfold tw2
    rw [if_neg h1]
    by_cases h2 : f 22 k = 3
    · rw [if_pos h2, if_pos (Or.inl h2)]
      exact eBS_S
    · by_cases h3 : mFu g = true
      · rw [if_neg h2, if_pos h3, if_pos (Or.inr h3)]
        exact eBS_S
      · rw [if_neg h2, if_neg h3, if_neg (fun z => z.elim h2 h3)]
        rfl
theorem k_crew (c : Int32) : ecd [xIOB] (koIx c 4) = tw1 (mNr c 0 3 = true) := by
  rw [koIx_4]
  by_cases h0 : mNr c 0 3 = true <;> simp [tw1, kOr, eB_B, e_n, h0]
theorem k_ofObstacle (h1 : g 1 ≤ 12) (i w : Int32) : ecd [xIOB, xIAE] (kOr (koIx i (g 1)) (koArg w 0 4)) = tw2 (mNx i (g 1) = true) (¬ inB w 0 4 = true) := by
  rw [koIx_e (v := i) (n := g 1) (by omega), koArg_e]
  by_cases h0 : mNx i (g 1) = true <;> by_cases h1 : inB w 0 4 = true <;> simp [tw2, kOr, eBA_B, eBA_A, e_n, h0, h1]
theorem k_asked (h3 : g 3 ≤ 4) (i d ca : Int32) : ecd [xIOB, xIAE] (kOr (koIx i (g 3)) (kOr (koArg d 0 399) (koArg ca 0 3))) = tw2 (mNx i (g 3) = true) (mNr d 0 399 = true ∨ mNr ca 0 3 = true) := by
  rw [koIx_e (v := i) (n := g 3) (by omega), koArg_e, koArg_e]
  simp only [mNr_i]
  by_cases h0 : mNx i (g 3) = true <;> by_cases h1 : inB d 0 399 = true <;> by_cases h2 : inB ca 0 3 = true <;> simp [tw2, kOr, eBA_B, eBA_A, e_n, h0, h1, h2]
theorem mNr_0 : ¬ mNr 0 0 3 = true := by decide +kernel
theorem k_asked0 (h3 : g 3 ≤ 4) (i d : Int32) : ecd [xIOB, xIAE] (kOr (koIx i (g 3)) (koArg d 0 399)) = tw2 (mNx i (g 3) = true) (mNr d 0 399 = true ∨ mNr 0 0 3 = true) := by
  have h9 := mNr_0
  rw [koIx_e (v := i) (n := g 3) (by omega), koArg_e]
  simp only [mNr_i] at h9 ⊢
  by_cases h0 : mNx i (g 3) = true <;> by_cases h1 : inB d 0 399 = true <;> simp [tw2, kOr, eBA_B, eBA_A, e_n, h0, h1, Classical.not_not.mp h9]
theorem k_ofNotice (h5 : g 5 ≤ 16) (i w : Int32) : ecd [xIOB, xIAE] (kOr (koIx i (g 5)) (koArg w 0 5)) = tw2 (¬ inB i 0 (nI (g 5) - 1) = true) (¬ inB w 0 5 = true) := by
  rw [koIx_e (v := i) (n := g 5) (by omega), koArg_e]
  simp only [mNx_i]
  by_cases h0 : inB i 0 (nI (g 5) - 1) = true <;> by_cases h1 : inB w 0 5 = true <;> simp [tw2, kOr, eBA_B, eBA_A, e_n, h0, h1]
theorem k_believes (h3 : g 3 ≤ 4) (c i d ca : Int32) : ecd [xIOB, xIAE] (kOr (koIx c 4) (kOr (koIx i (g 3)) (kOr (koArg d (nI (g 0)) 399) (koArg ca 0 3)))) = tw2 (mNr c 0 3 = true ∨ mNx i (g 3) = true) (¬ inB d (nI (g 0)) 399 = true ∨ mNr ca 0 3 = true) := by
  rw [koIx_4, koIx_e (v := i) (n := g 3) (by omega), koArg_e, koArg_e]
  simp only [mNr_i]
  by_cases h0 : inB c 0 3 = true <;> by_cases h1 : mNx i (g 3) = true <;> by_cases h2 : inB d (nI (g 0)) 399 = true <;> by_cases h3 : inB ca 0 3 = true <;> simp [tw2, kOr, eBA_B, eBA_A, e_n, h0, h1, h2, h3]
theorem k_many (w : Int32) : ecd [xIAE] (koArg w 0 19) = tw1 (¬ inB w 0 19 = true) := by
  rw [koArg_e]
  by_cases h0 : inB w 0 19 = true <;> simp [tw1, kOr, eA_A, e_n, h0]
theorem k_mean (d : Int32) : ecd [xIAE] (koArg d 0 399) = tw1 (mNr d 0 399 = true) := by
  rw [koArg_e]
  simp only [mNr_i]
  by_cases h0 : inB d 0 399 = true <;> simp [tw1, kOr, eA_A, e_n, h0]
theorem k_permit (x y t a b : Int32) : ecd [xIAE] (kOr (koPl x y a b) (koArg t 0 999)) = tw1 (mNP x y a b = true ∨ ¬ inB t 0 999 = true) := by
  rw [koPl_e, koArg_e]
  by_cases h0 : mNP x y a b = true <;> by_cases h1 : inB t 0 999 = true <;> simp [tw1, kOr, eA_A, e_n, h0, h1]
theorem k_highest (x y a b : Int32) : ecd [xIAE] (koPl x y a b) = tw1 (mNP x y a b = true) := by
  rw [koPl_e]
  by_cases h0 : mNP x y a b = true <;> simp [tw1, kOr, eA_A, e_n, h0]
theorem k_proc (h3 : g 3 ≤ 4) (i : Int32) : ecd [xIOB] (koIx i (g 3)) = tw1 (mNx i (g 3) = true) := by
  rw [koIx_e (v := i) (n := g 3) (by omega)]
  by_cases h0 : mNx i (g 3) = true <;> simp [tw1, kOr, eB_B, e_n, h0]
end EQK
