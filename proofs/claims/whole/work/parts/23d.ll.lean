/-! what a call that isn't refused keeps -/
section QLL
variable {f : Nat → Nat → Int32} {g : Nat → Nat}
theorem lt_nle {n m : Nat} {M : Int32} (hM : nI m = M) (hn : n < 65536) (hm : m < 65536) (h : ¬ M ≤ nI n) : n < m := by
  rw [← hM, nI_leI (by omega) (by omega)] at h
  omega
theorem nl_lt (h5 : g 5 ≤ 16) (h : koNL g = none) : g 5 < 16 := lt_nle (M := 16) (m := 16) (by decide) (by omega) (by decide) (koIf_n h)
theorem ll_obstacle (h : LI f g) {x y t a b : Int32} (hk : kOr (koPl x y a b) (kOr (koArg t 0 999) (if 12 ≤ nI (g 1) then some xISE else none)) = none) : LI (obAdd f g x y t a b) (gset g 1 (g 1 + 1)) := by
  have h1 := h.1.2.1
  obtain ⟨k1, k2⟩ := koOr_n hk
  obtain ⟨k2, k3⟩ := koOr_n k2
  exact li_obstacle h k1 k2 (lt_nle (M := 12) (m := 12) (by decide) (by omega) (by decide) (koIf_n k3))
theorem ll_row (h : LI f g) {k n : Nat} {i v : Int32} (hr : rl k = n) (hn : n < 65536) (hk : k = 13 ∨ k = 14 ∨ k = 16 ∨ k = 28) {n2 : Nat} (hn2 : n2 ≤ n) (hi : koIx i n2 = none) : LI (rowPut f k i v) g := by
  obtain ⟨q, hq, rfl⟩ := koIx_n (n := n2) (by omega) hi
  rw [rowPut_fS (by omega)]
  exact li_fS h hk
theorem ll_end (h : LI f g) {i v : Int32} {o9 : Option String} (hk : kOr (koIx i (g 1)) o9 = none) : LI (rowPut f 14 i v) g := ll_row h (n := 12) (by decide) (by decide) (by decide) h.1.2.1 (koOr_n hk).1
theorem ll_aid (h : LI f g) {i k : Int32} (hk : kOr (koIx i 3) (koArg k 0 2) = none) : LI (rowPut f 15 i k) g := by
  obtain ⟨q, hq, rfl⟩ := koIx_n (n := 3) (by omega) (koOr_n hk).1
  obtain ⟨j, hj, rfl⟩ := koArg_s (M := 2) (m := 2) (by decide) (by decide) (koOr_n hk).2
  rw [rowPut_fS (k := 15) hq]
  exact li_aid h hq (by omega)
theorem ll_check (h : LI f g) {i v : Int32} {o9 : Option String} (hk : kOr (koIx i 3) o9 = none) : LI (rowPut f 16 i v) g := ll_row h (n := 3) (by decide) (by decide) (by decide) (Nat.le_refl _) (koOr_n hk).1
theorem ll_procedure (h : LI f g) {i v : Int32} (hk : kOr (koIx i 3) (kOr (koArg v 10 40) (if 4 ≤ nI (g 3) then some xISE else none)) = none) : LI (prAdd f g i v) (gset g 3 (g 3 + 1)) := by
  have h3 := h.1.2.2.1
  obtain ⟨k1, k2⟩ := koOr_n hk
  obtain ⟨k2, k3⟩ := koOr_n k2
  obtain ⟨q, hq, rfl⟩ := koIx_n (n := 3) (by omega) k1
  have hz := koArg_z k2
  refine li_procedure h hq (fun e => ?_) (lt_nle (M := 4) (m := 4) (by decide) (by omega) (by decide) (koIf_n k3))
  rw [e] at hz
  exact absurd hz.1 (by decide)
theorem ll_pass (h : LI f g) {d : Int32} (hk : kOr (koArg d 1 60) (if 399 < nI (g 0) + d then some xISE else none) = none) : LI f (gset (gset g 0 (g 0 + cnt d)) 7 (g 7 + psT f g (cnt d))) := by
  have hd := koArg_c1 (koOr_n hk).1
  exact li_pass h (pas_le hd.1 h.1.1 (by omega) (Int32.not_lt.mp (koIf_n (koOr_n hk).2))) (psT_le f g (cnt d))
theorem ll_amend (h : LI f g) {i a b : Int32} (hk : kOr (koIx i (g 3)) (if 20 ≤ nI (g 4) ∨ 399 < nI (frN g) then some xISE else none) = none) : LI (amAdd f g i a b) (gset g 4 (g 4 + 1)) := by
  have h3 := h.1.2.2.1
  have h4 := h.1.2.2.2.1
  obtain ⟨q, hq, rfl⟩ := koIx_n (n := g 3) (by omega) (koOr_n hk).1
  exact li_amend h hq (lt_nle (M := 20) (m := 20) (by decide) (by omega) (by decide) (fun z => koIf_n (koOr_n hk).2 (Or.inl z)))
theorem ll_raise (h : LI f g) {i v a b : Int32} (hk : kOr (koIx i (g 3)) (kOr (koArg v 1 500) (kOr (koTime g a b) (koNL g))) = none) : LI (noAdd f g 0 i v a b) (gset g 5 (g 5 + 1)) := li_notice h (by decide) (nl_lt h.1.2.2.2.2.1 (koOr_n (koOr_n (koOr_n hk).2).2).2)
theorem ll_out (h : LI f g) {i a b : Int32} {o9 : Option String} (hk : kOr o9 (kOr (koTime g a b) (koNL g)) = none) : LI (noAdd f g 1 i 0 a b) (gset g 5 (g 5 + 1)) := li_notice h (by decide) (nl_lt h.1.2.2.2.2.1 (koOr_n (koOr_n hk).2).2)
theorem ll_close (h : LI f g) {i a b : Int32} {o9 : Option String} (hk : kOr o9 (kOr (koTime g a b) (koNL g)) = none) : LI (noAdd f g 2 i 0 a b) (gset g 5 (g 5 + 1)) := li_notice h (by decide) (nl_lt h.1.2.2.2.2.1 (koOr_n (koOr_n hk).2).2)
theorem ll_cancel (h : LI f g) {i : Int32} (hk : kOr (koIx i (g 5)) (kOr (if rowAt 16 (f 22) i = 3 then some xISE else none) (koNL g)) = none) : LI (caAdd f g i (nI (g 0))) (gset g 5 (g 5 + 1)) := by
  have h5 := h.1.2.2.2.2.1
  obtain ⟨k1, k2⟩ := koOr_n hk
  obtain ⟨k2, k3⟩ := koOr_n k2
  obtain ⟨q, hq, rfl⟩ := koIx_n (n := g 5) (by omega) k1
  have h9 := koIf_n k2
  rw [rowAt_in (show q < 16 by omega) (by decide)] at h9
  exact li_cancel h hq h9 (nl_lt h5 k3)
theorem ll_load (h : LI f g) {c v : Int32} (hk : koIx c 4 = none) : LI (rowPut f 28 c v) g := ll_row h (n := 4) (by decide) (by decide) (by decide) (Nat.le_refl _) hk
theorem ll_read (h : LI f g) {c : Int32} (hk : koIx c 4 = none) : LI (rowPut f 29 c (nI (g 5))) g := by
  obtain ⟨q, hq, rfl⟩ := koIx_n (n := 4) (by omega) hk
  rw [rowPut_fS (k := 29) hq]
  exact li_read h hq
end QLL
