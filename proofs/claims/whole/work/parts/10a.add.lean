/-! ===== one more in the reference's lists ===== -/
theorem rowPut_fS {f : Nat → Nat → Int32} {k n : Nat} {v : Int32} (hn : n < rl k) : rowPut f k (nI n) v = fS f k n v := by
  have h2 := rl_lt k
  funext j
  unfold rowPut fS
  by_cases e : j = k
  · subst e
    rw [if_pos rfl, if_pos rfl, if_neg (nI_pos (by omega)), if_neg (nI_ge hn h2), nI_clamp (by omega)]
  · rw [if_neg e, if_neg e]
theorem fS_ne {f : Nat → Nat → Int32} {k n j : Nat} {v : Int32} (h : j ≠ k) : fS f k n v j = f j := by
  unfold fS; rw [if_neg h]
theorem fS_o {f : Nat → Nat → Int32} {k n j q : Nat} {v : Int32} (h : q ≠ n) : fS f k n v j q = f j q := by
  unfold fS
  by_cases e : j = k
  · subst e; rw [if_pos rfl]; exact if_neg h
  · rw [if_neg e]
theorem amL_cg {f f' : Nat → Nat → Int32} {i n : Nat} (h : f' 19 = f 19) : amL f' i n = amL f i n := by
  unfold amL; rw [h]
set_option maxHeartbeats 1000000 in
theorem mC_cg {G : GT} {B B' : Nat → Nat} {th th' : Int32} {mc mc' : Nat → Int32} {cp cp' : Nat → Nat} {f f' : Nat → Nat → Int32} {g g' : Nat → Nat} {k : Nat} (h0 : k = 0 → th' = th ∧ g' 0 = g 0 ∧ g' 7 = g 7 ∧ g' 4 = g 4 ∧ B' 5 = B 5 ∧ B' 1 = B 1 ∧ B' 2 = B 2 ∧ B' 6 = B 6 ∧ B' 7 = B 7 ∧ B' 3 = B 3 ∧ B' 4 = B 4) (h1 : k = 1 → f' 15 = f 15) (h2 : k = 2 → f' 16 = f 16) (h3 : k = 3 → f' 28 = f 28) (h4 : k = 4 → f' 29 = f 29) (h5 : k = 5 → mc' 5 = mc 5 ∧ eA G B' cp' 5 8 = eA G B cp 5 8 ∧ g' 1 = g 1) (h6 : k = 6 → mc' 6 = mc 6 ∧ eA G B' cp' 6 9 = eA G B cp 6 9 ∧ g' 3 = g 3) (h7 : k = 7 → mc' 7 = mc 7 ∧ eA G B' cp' 7 10 = eA G B cp 7 10 ∧ g' 5 = g 5) (h8 : k = 8 → cp' 5 = cp 5 ∧ lsE B' 20 (g' 1) = lsE B 20 (g 1)) (h9 : k = 9 → cp' 6 = cp 6 ∧ lsE B' 40 (g' 3) = lsE B 40 (g 3)) (h10 : k = 10 → cp' 7 = cp 7 ∧ lsE B' 200 (g' 5) = lsE B 200 (g 5)) (h20 : 11 ≤ k → k < 40 → f' 10 (k - 20) = f 10 (k - 20) ∧ f' 11 (k - 20) = f 11 (k - 20) ∧ f' 12 (k - 20) = f 12 (k - 20) ∧ f' 13 (k - 20) = f 13 (k - 20) ∧ f' 14 (k - 20) = f 14 (k - 20)) (h40 : 40 ≤ k → k < 50 → f' 17 (k - 40) = f 17 (k - 40) ∧ f' 18 (k - 40) = f 18 (k - 40) ∧ B' (k + 10) = B (k + 10)) (h50 : 50 ≤ k → k < 60 → mc' k = mc k ∧ eA G B' cp' k (k + 10) = eA G B cp k (k + 10) ∧ amL f' (k - 50) (g' 4) = amL f (k - 50) (g 4)) (h60 : 60 ≤ k → k < 70 → cp' (k - 10) = cp (k - 10) ∧ amE B' (amL f' (k - 60) (g' 4)) = amE B (amL f (k - 60) (g 4))) (h100 : 70 ≤ k → k < 200 → f' 20 (k - 100) = f 20 (k - 100) ∧ f' 21 (k - 100) = f 21 (k - 100)) (h200 : 200 ≤ k → f' 22 (k - 200) = f 22 (k - 200) ∧ f' 23 (k - 200) = f 23 (k - 200) ∧ f' 24 (k - 200) = f 24 (k - 200) ∧ f' 25 (k - 200) = f 25 (k - 200) ∧ f' 26 (k - 200) = f 26 (k - 200)) : mC G B' th' mc' cp' f' g' k = mC G B th mc cp f g k := by
  unfold mC
  by_cases e0 : k = 0
  · obtain ⟨a0, a1, a2, a3, a4, a5, a6, a7, a8, a9, a10⟩ := h0 e0
    rw [if_pos e0, if_pos e0, a0, a1, a2, a3, a4, a5, a6, a7, a8, a9, a10]
  · rw [if_neg e0, if_neg e0]
    by_cases e1 : k = 1
    · have a0 := h1 e1
      rw [if_pos e1, if_pos e1, a0]
    · rw [if_neg e1, if_neg e1]
      by_cases e2 : k = 2
      · have a0 := h2 e2
        rw [if_pos e2, if_pos e2, a0]
      · rw [if_neg e2, if_neg e2]
        by_cases e3 : k = 3
        · have a0 := h3 e3
          rw [if_pos e3, if_pos e3, a0]
        · rw [if_neg e3, if_neg e3]
          by_cases e4 : k = 4
          · have a0 := h4 e4
            rw [if_pos e4, if_pos e4, a0]
          · rw [if_neg e4, if_neg e4]
            by_cases e5 : k = 5
            · obtain ⟨a0, a1, a2⟩ := h5 e5
              rw [if_pos e5, if_pos e5, a0, a1, a2]
            · rw [if_neg e5, if_neg e5]
              by_cases e6 : k = 6
              · obtain ⟨a0, a1, a2⟩ := h6 e6
                rw [if_pos e6, if_pos e6, a0, a1, a2]
              · rw [if_neg e6, if_neg e6]
                by_cases e7 : k = 7
                · obtain ⟨a0, a1, a2⟩ := h7 e7
                  rw [if_pos e7, if_pos e7, a0, a1, a2]
                · rw [if_neg e7, if_neg e7]
                  by_cases e8 : k = 8
                  · obtain ⟨a0, a1⟩ := h8 e8
                    rw [if_pos e8, if_pos e8, a0, a1]
                  · rw [if_neg e8, if_neg e8]
                    by_cases e9 : k = 9
                    · obtain ⟨a0, a1⟩ := h9 e9
                      rw [if_pos e9, if_pos e9, a0, a1]
                    · rw [if_neg e9, if_neg e9]
                      by_cases e10 : k = 10
                      · obtain ⟨a0, a1⟩ := h10 e10
                        rw [if_pos e10, if_pos e10, a0, a1]
                      · rw [if_neg e10, if_neg e10]
                        by_cases e11 : k < 40
                        · obtain ⟨a0, a1, a2, a3, a4⟩ := h20 (by omega) e11
                          rw [if_pos e11, if_pos e11, a0, a1, a2, a3, a4]
                        · rw [if_neg e11, if_neg e11]
                          by_cases e12 : k < 50
                          · obtain ⟨a0, a1, a2⟩ := h40 (by omega) e12
                            rw [if_pos e12, if_pos e12, a0, a1, a2]
                          · rw [if_neg e12, if_neg e12]
                            by_cases e13 : k < 60
                            · obtain ⟨a0, a1, a2⟩ := h50 (by omega) e13
                              rw [if_pos e13, if_pos e13, a0, a1, a2]
                            · rw [if_neg e13, if_neg e13]
                              by_cases e14 : k < 70
                              · obtain ⟨a0, a1⟩ := h60 (by omega) e14
                                rw [if_pos e14, if_pos e14, a0, a1]
                              · rw [if_neg e14, if_neg e14]
                                by_cases e15 : k < 200
                                · obtain ⟨a0, a1⟩ := h100 (by omega) e15
                                  rw [if_pos e15, if_pos e15, a0, a1]
                                · rw [if_neg e15, if_neg e15]
                                  obtain ⟨a0, a1, a2, a3, a4⟩ := h200 (by omega)
                                  rw [a0, a1, a2, a3, a4]
theorem mp_ch {G : GT} {B B' : Nat → Nat} {th th' : Int32} {mc mc' : Nat → Int32} {cp cp' : Nat → Nat} {f f' : Nat → Nat → Int32} {g g' : Nat → Nat} {H t : Heap} {K : Nat → Prop} (hM : MP G B th mc cp f g H) (hI : MI cp' f' g') (hK : ∀ k, K k → mD cp' g' k → va_at G.1 vwCl (B' k, mC G B' th' mc' cp' f' g' k) t) (hN : ∀ k, mD cp' g' k → ¬ K k → mD cp g k ∧ B' k = B k ∧ mC G B' th' mc' cp' f' g' k = mC G B th mc cp f g k ∧ t[B k]? = H[B k]?) : MP G B' th' mc' cp' f' g' t := ⟨hI, fun k hk => by
  by_cases e : K k
  · exact hK k e hk
  · obtain ⟨h1, h2, h3, h4⟩ := hN k hk e
    rw [h2, h3]; exact (hM.2 k h1).kept h4⟩
theorem db_ch {D : Nat → Prop} {B B' : Nat → Nat} {cp cp' : Nat → Nat} {g g' : Nat → Nat} {K : Nat → Prop} (hB : DB D B cp g) (hN : ∀ k, mD cp' g' k → K k ∨ (mD cp g k ∧ B' k = B k)) (hK : ∀ k, K k → D (B' k) ∧ ∀ j, mD cp g j → B j ≠ B' k) (hKK : ∀ j k, K j → K k → B' j = B' k → j = k) : DB D B' cp' g' := by
  refine ⟨fun k hk => (hN k hk).elim (fun h => (hK k h).1) (fun h => by rw [h.2]; exact hB.1 k h.1), fun j k hj hk e => ?_⟩
  rcases hN j hj with a | ⟨a1, a2⟩
  · rcases hN k hk with b | ⟨b1, b2⟩
    · exact hKK j k a b e
    · exact absurd (b2.symm.trans e.symm) ((hK j a).2 k b1)
  · rcases hN k hk with b | ⟨b1, b2⟩
    · exact absurd (a2.symm.trans e) ((hK k b).2 j a1)
    · exact hB.2 j k a1 b1 (a2.symm.trans (e.trans b2))
/-- a list's capacity is none, or one of ArrayList's -/
def CG (cp : Nat → Nat) : Prop := ∀ k, cp k = 0 ∨ cG (cp k)
theorem cG_lt {c : Nat} (h : cG c) : c < 65536 ∧ 0 < c := by
  have h9 : c = 10 ∨ c = 15 ∨ c = 22 ∨ c = 33 := h
  omega
/-- the empty array stays empty -/
theorem st_no {G : GT} {t : Heap} {c : Nat} {r : Nat → Option Nat} (hst : stE G t) (hb : c < 65536) (h : va_at G.1 vwCl (G.2.2.2 0, .inl (G.2.1 1, gRef c r)) t) : c = 0 := by
  obtain ⟨cell, h1, -, -, h4⟩ := hst
  have h2 : t[G.2.2.2 0]? = some (vp_cell (G.2.1 1) (gRef c r)) := h
  have h3 := Option.some.inj (h1.symm.trans h2)
  rw [vp_cell_q] at h3
  rw [h3, arrV_size] at h4
  exact (nI_eq (by omega) (by omega)).mp h4
/-- where a list's array lies after an add -/
theorem ad_at {G : GT} {B : Nat → Nat} {cp : Nat → Nat} {H t : Heap} {q kj a' c : Nat} {r : Nat → Option Nat} (hst : stE G t) (hb : c < 65536) (hc : 0 < c) (h : a' = eA G B cp q kj ∨ H.size ≤ a') (h2 : va_at G.1 vwCl (a', .inl (G.2.1 1, gRef c r)) t) : (cp q ≠ 0 ∧ a' = B kj) ∨ H.size ≤ a' := by
  rcases h with h | h
  · unfold eA at h
    by_cases e : cp q = 0
    · rw [if_pos e] at h
      subst h
      have := st_no hst hb h2
      omega
    · rw [if_neg e] at h
      exact Or.inl ⟨e, h⟩
  · exact Or.inr h
theorem lsE_cg {B B' : Nat → Nat} {o n : Nat} (h : ∀ i, i < n → B' (o + i) = B (o + i)) : lsE B' o n = lsE B o n := by
  funext i
  unfold lsE
  by_cases z : i < n
  · rw [if_pos z, if_pos z, h i z]
  · rw [if_neg z, if_neg z]
theorem lsE_1 {B B' : Nat → Nat} {o n x : Nat} (h : ∀ i, i < n → B' (o + i) = B (o + i)) (hx : B' (o + n) = x) : (fun i => if i = n then some x else lsE B o n i) = lsE B' o (n + 1) := by
  funext i
  unfold lsE
  by_cases e : i = n
  · subst e; rw [if_pos rfl, if_pos (by omega), hx]
  · rw [if_neg e]
    by_cases e2 : i < n
    · rw [if_pos e2, if_pos (by omega), h i e2]
    · rw [if_neg e2, if_neg (by omega)]
theorem mC_no {G : GT} {B : Nat → Nat} {th : Int32} {mc : Nat → Int32} {cp g : Nat → Nat} {f : Nat → Nat → Int32} {i : Nat} : mC G B th mc cp f g (200 + i) = .inr (9, [.int (f 22 i), .int (f 23 i), .int (f 24 i), .int (f 25 i), .int (f 26 i)]) := by
  unfold mC
  rw [if_neg (by omega), if_neg (by omega), if_neg (by omega), if_neg (by omega), if_neg (by omega), if_neg (by omega), if_neg (by omega), if_neg (by omega), if_neg (by omega), if_neg (by omega), if_neg (by omega), if_neg (by omega), if_neg (by omega), if_neg (by omega), if_neg (by omega), if_neg (by omega), Nat.add_sub_cancel_left]
theorem amL_mem {f : Nat → Nat → Int32} {i n j : Nat} (h : j ∈ amL f i n) : j < n := List.mem_range.mp (List.mem_filter.mp h).1
theorem amE_cg {B B' : Nat → Nat} {L : List Nat} (h : ∀ j, j ∈ L → B' (100 + j) = B (100 + j)) : amE B' L = amE B L := by
  funext q
  unfold amE
  cases hq : L[q]? with
  | none => rfl
  | some j => exact congrArg some (h j (List.mem_of_getElem? hq))
theorem obAdd_fS {f : Nat → Nat → Int32} {g : Nat → Nat} {x1 x2 x3 x4 x5 : Int32} (h : g 1 < 12) : obAdd f g x1 x2 x3 x4 x5 = fS (fS (fS (fS (fS f 10 (g 1) x1) 11 (g 1) x2) 12 (g 1) x3) 13 (g 1) x4) 14 (g 1) x5 := by
  unfold obAdd
  rw [rowPut_fS (k := 10) h, rowPut_fS (k := 11) h, rowPut_fS (k := 12) h, rowPut_fS (k := 13) h, rowPut_fS (k := 14) h]
theorem obAdd_ne {f : Nat → Nat → Int32} {g : Nat → Nat} {x1 x2 x3 x4 x5 : Int32} {r : Nat} (hr : r < 10 ∨ 14 < r) : obAdd f g x1 x2 x3 x4 x5 r = f r := by
  unfold obAdd rowPut
  rw [if_neg (by omega), if_neg (by omega), if_neg (by omega), if_neg (by omega), if_neg (by omega)]
theorem obAdd_o {f : Nat → Nat → Int32} {g : Nat → Nat} {x1 x2 x3 x4 x5 : Int32} {r j : Nat} (h : g 1 < 12) (hj : j ≠ g 1) : obAdd f g x1 x2 x3 x4 x5 r j = f r j := by
  rw [obAdd_fS h, fS_o hj, fS_o hj, fS_o hj, fS_o hj, fS_o hj]
theorem obAdd_10 {f : Nat → Nat → Int32} {g : Nat → Nat} {x1 x2 x3 x4 x5 : Int32} (h : g 1 < 12) : obAdd f g x1 x2 x3 x4 x5 10 (g 1) = x1 := by
  rw [obAdd_fS h, fS_ne (by decide), fS_ne (by decide), fS_ne (by decide), fS_ne (by decide), fS_i]
theorem obAdd_11 {f : Nat → Nat → Int32} {g : Nat → Nat} {x1 x2 x3 x4 x5 : Int32} (h : g 1 < 12) : obAdd f g x1 x2 x3 x4 x5 11 (g 1) = x2 := by
  rw [obAdd_fS h, fS_ne (by decide), fS_ne (by decide), fS_ne (by decide), fS_i]
theorem obAdd_12 {f : Nat → Nat → Int32} {g : Nat → Nat} {x1 x2 x3 x4 x5 : Int32} (h : g 1 < 12) : obAdd f g x1 x2 x3 x4 x5 12 (g 1) = x3 := by
  rw [obAdd_fS h, fS_ne (by decide), fS_ne (by decide), fS_i]
theorem obAdd_13 {f : Nat → Nat → Int32} {g : Nat → Nat} {x1 x2 x3 x4 x5 : Int32} (h : g 1 < 12) : obAdd f g x1 x2 x3 x4 x5 13 (g 1) = x4 := by
  rw [obAdd_fS h, fS_ne (by decide), fS_i]
theorem obAdd_14 {f : Nat → Nat → Int32} {g : Nat → Nat} {x1 x2 x3 x4 x5 : Int32} (h : g 1 < 12) : obAdd f g x1 x2 x3 x4 x5 14 (g 1) = x5 := by
  rw [obAdd_fS h, fS_i]
set_option maxHeartbeats 2000000 in
theorem mp_addO {G : GT} {D : Nat → Prop} {B : Nat → Nat} {th : Int32} {mc : Nat → Int32} {cp : Nat → Nat} {f : Nat → Nat → Int32} {g : Nat → Nat} {H t : Heap} {o : Nat} {x1 x2 x3 x4 x5 : Int32} {v : Option Value} (hM : MP G B th mc cp f g H) (hB : DB D B cp g) (hDn : ∀ q, H.size ≤ q → D q) (hDs : ∀ q, D q → G.2.2.1 ≤ q) (hs0 : G.2.2.2 0 < G.2.2.1) (hst : stE G t) (ho : va_at G.1 vwCl (o, .inr (10, [.int x1, .int x2, .int x3, .int x4, .int x5])) H) (hDo : D o) (hfo : ∀ k, mD cp g k → B k ≠ o) (hcp : CG cp) (hlt : g 1 < 12) (hx : -20 ≤ x1.toInt ∧ x1.toInt ≤ 60) (hP : adQ G H (B 5) (eA G B cp 5 8) (g 1) o (mc 5) (lsE B 20 (g 1)) v t) : v = some (.int 1) ∧ ∃ (B' : Nat → Nat) (mc' : Nat → Int32) (cp' : Nat → Nat), MP G B' th mc' cp' (obAdd f g x1 x2 x3 x4 x5) (gset g 1 (g 1 + 1)) t ∧ DB D B' cp' (gset g 1 (g 1 + 1)) ∧ CG cp' ∧ B' 0 = B 0 := by
  obtain ⟨hv, a', c', ⟨hc1, hc2⟩, ha, h1, h2, hz, hq⟩ := hP
  refine ⟨hv, ?_⟩
  have hI := hM.1
  obtain ⟨⟨i1, i2, i3, i4, i5, i6⟩, ⟨j1, j2, j3, j4, j5⟩, k1, k2, k3⟩ := hI
  have hc3 := cG_lt hc2
  have hat : (cp 5 ≠ 0 ∧ a' = B 8) ∨ H.size ≤ a' := ad_at hst hc3.1 hc3.2 ha h2
  have hol := va_at.lt ho
  have hol : o < H.size := hol
  have hq5 : mD cp g 5 := Or.inl (by decide)
  have hqj : cp 5 ≠ 0 → mD cp g 8 := fun h => Or.inr (Or.inl ⟨rfl, h⟩)
  have hne5 : ∀ k, mD cp g k → k ≠ 5 → B k ≠ B 5 := fun k hk h e => h (hB.2 k 5 hk hq5 e)
  have hneA : ∀ k, mD cp g k → k ≠ 8 → B k ≠ eA G B cp 5 8 := fun k hk h e => by
    unfold eA at e
    by_cases e2 : cp 5 = 0
    · rw [if_pos e2] at e
      have := hDs _ (hB.1 k hk)
      omega
    · rw [if_neg e2] at e
      exact h (hB.2 k 8 hk (hqj e2) e)
  have hoA : o ≠ eA G B cp 5 8 := fun e => by
    unfold eA at e
    by_cases e2 : cp 5 = 0
    · rw [if_pos e2] at e
      have := hDs _ hDo
      omega
    · rw [if_neg e2] at e
      exact hfo 8 (hqj e2) e.symm
  obtain ⟨B', hBj, hBo, hBe⟩ : ∃ B' : Nat → Nat, B' 8 = a' ∧ B' (20 + g 1) = o ∧ ∀ k, k ≠ 8 → k ≠ 20 + g 1 → B' k = B k := ⟨fun k => if k = 8 then a' else if k = 20 + g 1 then o else B k, if_pos rfl, by dsimp only; rw [if_neg (by omega), if_pos rfl], fun k h1 h2 => by dsimp only; rw [if_neg h1, if_neg h2]⟩
  obtain ⟨mc', hm1, hm2⟩ : ∃ mc' : Nat → Int32, mc' 5 = mc 5 + 1 ∧ ∀ k, k ≠ 5 → mc' k = mc k := ⟨fun k => if k = 5 then mc 5 + 1 else mc k, if_pos rfl, fun k h => by dsimp only; rw [if_neg h]⟩
  obtain ⟨cp', hp1, hp2⟩ : ∃ cp' : Nat → Nat, cp' 5 = c' ∧ ∀ k, k ≠ 5 → cp' k = cp k := ⟨fun k => if k = 5 then c' else cp k, if_pos rfl, fun k h => by dsimp only; rw [if_neg h]⟩
  have hgi : gset g 1 (g 1 + 1) 1 = g 1 + 1 := if_pos rfl
  have hgo : ∀ k, k ≠ 1 → gset g 1 (g 1 + 1) k = g k := fun k h => if_neg h
  have hg0 := hgo 0 (by decide)
  have hg3 := hgo 3 (by decide)
  have hg4 := hgo 4 (by decide)
  have hg5 := hgo 5 (by decide)
  have hg7 := hgo 7 (by decide)
  generalize hgg : gset g 1 (g 1 + 1) = g' at hgi hgo hg0 hg3 hg4 hg5 hg7 ⊢
  have hfr : ∀ r, (r < 10 ∨ 14 < r) → (obAdd f g x1 x2 x3 x4 x5) r = f r := fun r h => obAdd_ne h
  have hfj : ∀ r j, j ≠ g 1 → (obAdd f g x1 x2 x3 x4 x5) r j = f r j := fun r j h => obAdd_o hlt h
  have hf10 : (obAdd f g x1 x2 x3 x4 x5) 10 (g 1) = x1 := obAdd_10 hlt
  have hf11 : (obAdd f g x1 x2 x3 x4 x5) 11 (g 1) = x2 := obAdd_11 hlt
  have hf12 : (obAdd f g x1 x2 x3 x4 x5) 12 (g 1) = x3 := obAdd_12 hlt
  have hf13 : (obAdd f g x1 x2 x3 x4 x5) 13 (g 1) = x4 := obAdd_13 hlt
  have hf14 : (obAdd f g x1 x2 x3 x4 x5) 14 (g 1) = x5 := obAdd_14 hlt
  generalize (obAdd f g x1 x2 x3 x4 x5) = f' at hfr hfj hf10 hf11 hf12 hf13 hf14 ⊢
  have hmd : ∀ k, mD cp' g' k → k = 8 ∨ k = 20 + g 1 ∨ mD cp g k := fun k hk => by
    unfold mD at hk ⊢
    rcases hk with hk | hk | hk | hk | hk | hk | hk | hk | hk | hk
    · exact Or.inr (Or.inr (Or.inl hk))
    · exact Or.inl hk.1
    · exact Or.inr (Or.inr (Or.inr (Or.inr (Or.inl ⟨hk.1, by rw [← hp2 6 (by decide)]; exact hk.2⟩))))
    · exact Or.inr (Or.inr (Or.inr (Or.inr (Or.inr (Or.inl ⟨hk.1, by rw [← hp2 7 (by decide)]; exact hk.2⟩)))))
    · rw [hgi] at hk; by_cases e9 : k = 20 + g 1
      · exact Or.inr (Or.inl e9)
      · exact Or.inr (Or.inr (Or.inr (Or.inr (Or.inr (Or.inr (Or.inl ⟨hk.1, by omega, hk.2.2⟩))))))
    · rw [hg3] at hk; exact Or.inr (Or.inr (Or.inr (Or.inr (Or.inr (Or.inr (Or.inr (Or.inl hk)))))))
    · rw [hg3] at hk; exact Or.inr (Or.inr (Or.inr (Or.inr (Or.inr (Or.inr (Or.inr (Or.inr (Or.inl hk))))))))
    · rw [hg3] at hk; exact Or.inr (Or.inr (Or.inr (Or.inr (Or.inr (Or.inr (Or.inr (Or.inr (Or.inr (Or.inl ⟨hk.1, hk.2.1, hk.2.2.1, by rw [← hp2 (k - 10) (by omega)]; exact hk.2.2.2⟩)))))))))
    · rw [hg4] at hk; exact Or.inr (Or.inr (Or.inr (Or.inr (Or.inr (Or.inr (Or.inr (Or.inr (Or.inr (Or.inr (Or.inl hk))))))))))
    · rw [hg5] at hk; exact Or.inr (Or.inr (Or.inr (Or.inr (Or.inr (Or.inr (Or.inr (Or.inr (Or.inr (Or.inr (Or.inr (hk)))))))))))
  have hBs : ∀ k, k < 8 → B' k = B k := fun k h => hBe k (by omega) (by omega)
  have hamL : ∀ i, amL f' i (g' 4) = amL f i (g 4) := fun i => by rw [hg4]; exact amL_cg (hfr 19 (by decide))
  have hls : lsE B' 20 (g' 1) = (fun i => if i = g 1 then some o else lsE B 20 (g 1) i) := by
    rw [hgi]; exact (lsE_1 (fun i h => hBe _ (by omega) (by omega)) hBo).symm
  have heA : eA G B' cp' 5 8 = a' := by unfold eA; rw [hp1, if_neg (by omega), hBj]
  refine ⟨B', mc', cp', mp_ch (K := fun k => k = 5 ∨ k = 8 ∨ k = 20 + g 1) hM ?_ ?_ ?_, db_ch (K := fun k => k = 20 + g 1 ∨ (k = 8 ∧ H.size ≤ a')) hB ?_ ?_ ?_, ?_, hBs 0 (by decide)⟩
  · refine ⟨⟨fun k => ?_, by rw [hg0]; exact i2, by rw [hgi]; omega, by rw [hg3]; exact i4, by rw [hg4]; exact i5, by rw [hg5]; exact i6⟩, ⟨by rw [hgi, hp1]; omega, by rw [hg3, hp2 6 (by decide)]; exact j2, by rw [hg5, hp2 7 (by decide)]; exact j3, fun i hi => by rw [hamL, hp2 (50 + i) (by omega)]; exact j4 i (by rw [← hg3]; exact hi), fun k => ?_⟩, fun i hi => by rw [hfr 17 (by decide)]; exact k1 i (by rw [← hg3]; exact hi), fun a h => by rw [hfr 15 (by decide)]; exact k2 a h, fun i hi => ?_⟩
    · by_cases e9 : k = 1
      · subst e9; rw [hgi]; omega
      · rw [hgo k e9]; exact i1 k
    · by_cases e9 : k = 5
      · subst e9; rw [hp1]; exact hc3.1
      · rw [hp2 k e9]; exact j5 k
    · by_cases e9 : i = g 1
      · subst e9; rw [hf10]; exact hx
      · rw [hfj 10 i e9]; exact k3 i (by omega)
  · intro k hk _
    rcases hk with rfl | rfl | rfl
    · rw [hBs 5 (by decide)]
      show va_at G.1 vwCl (B 5, .inr (0, [.int (mc' 5), .ref (eA G B' cp' 5 8), .int (nI (g' 1))])) t
      rw [heA, hm1, hgi]; exact h1
    · rw [hBj]
      show va_at G.1 vwCl (a', .inl (G.2.1 1, gRef (cp' 5) (lsE B' 20 (g' 1)))) t
      rw [hp1, hls]; exact h2
    · rw [hBo]
      rw [mC_ob (by omega)]
      rw [hf10, hf11, hf12, hf13, hf14]
      exact va_at.kept ho (hq o hol (Ne.symm (hfo 5 hq5)) hoA)
  · intro k hk hnk
    have hn1 : k ≠ 5 := fun z => hnk (Or.inl z)
    have hn2 : k ≠ 8 := fun z => hnk (Or.inr (Or.inl z))
    have hn3 : k ≠ 20 + g 1 := fun z => hnk (Or.inr (Or.inr z))
    have hkm : mD cp g k := ((hmd k hk).resolve_left hn2).resolve_left hn3
    refine ⟨hkm, hBe k hn2 hn3, ?_, hq (B k) (mp_lt hM hkm) (hne5 k hkm hn1) (hneA k hkm hn2)⟩
    refine mC_cg (fun _ => ⟨rfl, hg0, hg7, hg4, hBs 5 (by decide), hBs 1 (by decide), hBs 2 (by decide), hBs 6 (by decide), hBs 7 (by decide), hBs 3 (by decide), hBs 4 (by decide)⟩) (fun _ => hfr 15 (by decide)) (fun _ => hfr 16 (by decide)) (fun _ => hfr 28 (by decide)) (fun _ => hfr 29 (by decide)) ?_ ?_ ?_ ?_ ?_ ?_ ?_ ?_ ?_ ?_ ?_ ?_
    · exact fun z => absurd z hn1
    · exact fun _ => ⟨hm2 6 (by decide), by unfold eA; rw [hp2 6 (by decide), hBe 9 (by decide) (by omega)], hg3⟩
    · exact fun _ => ⟨hm2 7 (by decide), by unfold eA; rw [hp2 7 (by decide), hBe 10 (by decide) (by omega)], hg5⟩
    · exact fun z => absurd z hn2
    · exact fun _ => ⟨hp2 6 (by decide), by rw [hg3]; exact lsE_cg fun i hi => hBe _ (by omega) (by omega)⟩
    · exact fun _ => ⟨hp2 7 (by decide), by rw [hg5]; exact lsE_cg fun i hi => hBe _ (by omega) (by omega)⟩
    · intro z1 z2
      have z3 : 20 ≤ k := by unfold mD at hkm; omega
      exact ⟨hfj 10 _ (by omega), hfj 11 _ (by omega), hfj 12 _ (by omega), hfj 13 _ (by omega), hfj 14 _ (by omega)⟩
    · exact fun z1 z2 => ⟨congrFun (hfr 17 (by decide)) _, congrFun (hfr 18 (by decide)) _, hBe _ (by omega) (by omega)⟩
    · exact fun z1 z2 => ⟨hm2 k (by omega), by unfold eA; rw [hp2 k (by omega), hBe (k + 10) (by omega) (by omega)], hamL _⟩
    · exact fun z1 z2 => ⟨hp2 (k - 10) (by omega), by rw [hamL]; exact amE_cg fun j hj => hBe _ (by omega) (by have := amL_mem hj; omega)⟩
    · exact fun _ _ => ⟨congrFun (hfr 20 (by decide)) _, congrFun (hfr 21 (by decide)) _⟩
    · exact fun _ => ⟨congrFun (hfr 22 (by decide)) _, congrFun (hfr 23 (by decide)) _, congrFun (hfr 24 (by decide)) _, congrFun (hfr 25 (by decide)) _, congrFun (hfr 26 (by decide)) _⟩
  · intro k hk
    rcases hmd k hk with z | z | z
    · rcases hat with ⟨w1, w2⟩ | w
      · exact Or.inr ⟨by rw [z]; exact hqj w1, by rw [z, hBj]; exact w2⟩
      · exact Or.inl (Or.inr ⟨z, w⟩)
    · exact Or.inl (Or.inl z)
    · by_cases z1 : k = 8
      · rcases hat with ⟨w1, w2⟩ | w
        · exact Or.inr ⟨z, by rw [z1, hBj]; exact w2⟩
        · exact Or.inl (Or.inr ⟨z1, w⟩)
      · by_cases z2 : k = 20 + g 1
        · exact Or.inl (Or.inl z2)
        · exact Or.inr ⟨z, hBe k z1 z2⟩
  · intro k hk
    rcases hk with rfl | ⟨rfl, w⟩
    · rw [hBo]; exact ⟨hDo, hfo⟩
    · rw [hBj]; exact ⟨hDn _ w, fun j hj => Nat.ne_of_lt (Nat.lt_of_lt_of_le (mp_lt hM hj) w)⟩
  · intro j k hj hk z
    rcases hj with rfl | ⟨rfl, w⟩
    · rcases hk with rfl | ⟨rfl, w⟩
      · rfl
      · rw [hBo, hBj] at z; omega
    · rcases hk with rfl | ⟨rfl, w⟩
      · rw [hBo, hBj] at z; omega
      · rfl
  · intro k
    by_cases z : k = 5
    · rw [z, hp1]; exact Or.inr hc2
    · rw [hp2 k z]; exact hcp k
theorem noAdd_fS {f : Nat → Nat → Int32} {g : Nat → Nat} {x1 x2 x3 x4 x5 : Int32} (h : g 5 < 16) : noAdd f g x1 x2 x3 x4 x5 = fS (fS (fS (fS (fS f 22 (g 5) x1) 23 (g 5) x2) 24 (g 5) x3) 25 (g 5) x4) 26 (g 5) x5 := by
  unfold noAdd
  rw [rowPut_fS (k := 22) h, rowPut_fS (k := 23) h, rowPut_fS (k := 24) h, rowPut_fS (k := 25) h, rowPut_fS (k := 26) h]
theorem noAdd_ne {f : Nat → Nat → Int32} {g : Nat → Nat} {x1 x2 x3 x4 x5 : Int32} {r : Nat} (hr : r < 22 ∨ 26 < r) : noAdd f g x1 x2 x3 x4 x5 r = f r := by
  unfold noAdd rowPut
  rw [if_neg (by omega), if_neg (by omega), if_neg (by omega), if_neg (by omega), if_neg (by omega)]
theorem noAdd_o {f : Nat → Nat → Int32} {g : Nat → Nat} {x1 x2 x3 x4 x5 : Int32} {r j : Nat} (h : g 5 < 16) (hj : j ≠ g 5) : noAdd f g x1 x2 x3 x4 x5 r j = f r j := by
  rw [noAdd_fS h, fS_o hj, fS_o hj, fS_o hj, fS_o hj, fS_o hj]
theorem noAdd_22 {f : Nat → Nat → Int32} {g : Nat → Nat} {x1 x2 x3 x4 x5 : Int32} (h : g 5 < 16) : noAdd f g x1 x2 x3 x4 x5 22 (g 5) = x1 := by
  rw [noAdd_fS h, fS_ne (by decide), fS_ne (by decide), fS_ne (by decide), fS_ne (by decide), fS_i]
theorem noAdd_23 {f : Nat → Nat → Int32} {g : Nat → Nat} {x1 x2 x3 x4 x5 : Int32} (h : g 5 < 16) : noAdd f g x1 x2 x3 x4 x5 23 (g 5) = x2 := by
  rw [noAdd_fS h, fS_ne (by decide), fS_ne (by decide), fS_ne (by decide), fS_i]
theorem noAdd_24 {f : Nat → Nat → Int32} {g : Nat → Nat} {x1 x2 x3 x4 x5 : Int32} (h : g 5 < 16) : noAdd f g x1 x2 x3 x4 x5 24 (g 5) = x3 := by
  rw [noAdd_fS h, fS_ne (by decide), fS_ne (by decide), fS_i]
theorem noAdd_25 {f : Nat → Nat → Int32} {g : Nat → Nat} {x1 x2 x3 x4 x5 : Int32} (h : g 5 < 16) : noAdd f g x1 x2 x3 x4 x5 25 (g 5) = x4 := by
  rw [noAdd_fS h, fS_ne (by decide), fS_i]
theorem noAdd_26 {f : Nat → Nat → Int32} {g : Nat → Nat} {x1 x2 x3 x4 x5 : Int32} (h : g 5 < 16) : noAdd f g x1 x2 x3 x4 x5 26 (g 5) = x5 := by
  rw [noAdd_fS h, fS_i]
set_option maxHeartbeats 2000000 in
theorem mp_addN {G : GT} {D : Nat → Prop} {B : Nat → Nat} {th : Int32} {mc : Nat → Int32} {cp : Nat → Nat} {f : Nat → Nat → Int32} {g : Nat → Nat} {H t : Heap} {o : Nat} {x1 x2 x3 x4 x5 : Int32} {v : Option Value} (hM : MP G B th mc cp f g H) (hB : DB D B cp g) (hDn : ∀ q, H.size ≤ q → D q) (hDs : ∀ q, D q → G.2.2.1 ≤ q) (hs0 : G.2.2.2 0 < G.2.2.1) (hst : stE G t) (ho : va_at G.1 vwCl (o, .inr (9, [.int x1, .int x2, .int x3, .int x4, .int x5])) H) (hDo : D o) (hfo : ∀ k, mD cp g k → B k ≠ o) (hcp : CG cp) (hlt : g 5 < 16) (hP : adQ G H (B 7) (eA G B cp 7 10) (g 5) o (mc 7) (lsE B 200 (g 5)) v t) : v = some (.int 1) ∧ ∃ (B' : Nat → Nat) (mc' : Nat → Int32) (cp' : Nat → Nat), MP G B' th mc' cp' (noAdd f g x1 x2 x3 x4 x5) (gset g 5 (g 5 + 1)) t ∧ DB D B' cp' (gset g 5 (g 5 + 1)) ∧ CG cp' ∧ B' 0 = B 0 := by
  obtain ⟨hv, a', c', ⟨hc1, hc2⟩, ha, h1, h2, hz, hq⟩ := hP
  refine ⟨hv, ?_⟩
  have hI := hM.1
  obtain ⟨⟨i1, i2, i3, i4, i5, i6⟩, ⟨j1, j2, j3, j4, j5⟩, k1, k2, k3⟩ := hI
  have hc3 := cG_lt hc2
  have hat : (cp 7 ≠ 0 ∧ a' = B 10) ∨ H.size ≤ a' := ad_at hst hc3.1 hc3.2 ha h2
  have hol := va_at.lt ho
  have hol : o < H.size := hol
  have hq5 : mD cp g 7 := Or.inl (by decide)
  have hqj : cp 7 ≠ 0 → mD cp g 10 := fun h => Or.inr (Or.inr (Or.inr (Or.inl ⟨rfl, h⟩)))
  have hne5 : ∀ k, mD cp g k → k ≠ 7 → B k ≠ B 7 := fun k hk h e => h (hB.2 k 7 hk hq5 e)
  have hneA : ∀ k, mD cp g k → k ≠ 10 → B k ≠ eA G B cp 7 10 := fun k hk h e => by
    unfold eA at e
    by_cases e2 : cp 7 = 0
    · rw [if_pos e2] at e
      have := hDs _ (hB.1 k hk)
      omega
    · rw [if_neg e2] at e
      exact h (hB.2 k 10 hk (hqj e2) e)
  have hoA : o ≠ eA G B cp 7 10 := fun e => by
    unfold eA at e
    by_cases e2 : cp 7 = 0
    · rw [if_pos e2] at e
      have := hDs _ hDo
      omega
    · rw [if_neg e2] at e
      exact hfo 10 (hqj e2) e.symm
  obtain ⟨B', hBj, hBo, hBe⟩ : ∃ B' : Nat → Nat, B' 10 = a' ∧ B' (200 + g 5) = o ∧ ∀ k, k ≠ 10 → k ≠ 200 + g 5 → B' k = B k := ⟨fun k => if k = 10 then a' else if k = 200 + g 5 then o else B k, if_pos rfl, by dsimp only; rw [if_neg (by omega), if_pos rfl], fun k h1 h2 => by dsimp only; rw [if_neg h1, if_neg h2]⟩
  obtain ⟨mc', hm1, hm2⟩ : ∃ mc' : Nat → Int32, mc' 7 = mc 7 + 1 ∧ ∀ k, k ≠ 7 → mc' k = mc k := ⟨fun k => if k = 7 then mc 7 + 1 else mc k, if_pos rfl, fun k h => by dsimp only; rw [if_neg h]⟩
  obtain ⟨cp', hp1, hp2⟩ : ∃ cp' : Nat → Nat, cp' 7 = c' ∧ ∀ k, k ≠ 7 → cp' k = cp k := ⟨fun k => if k = 7 then c' else cp k, if_pos rfl, fun k h => by dsimp only; rw [if_neg h]⟩
  have hgi : gset g 5 (g 5 + 1) 5 = g 5 + 1 := if_pos rfl
  have hgo : ∀ k, k ≠ 5 → gset g 5 (g 5 + 1) k = g k := fun k h => if_neg h
  have hg0 := hgo 0 (by decide)
  have hg1 := hgo 1 (by decide)
  have hg3 := hgo 3 (by decide)
  have hg4 := hgo 4 (by decide)
  have hg7 := hgo 7 (by decide)
  generalize hgg : gset g 5 (g 5 + 1) = g' at hgi hgo hg0 hg1 hg3 hg4 hg7 ⊢
  have hfr : ∀ r, (r < 22 ∨ 26 < r) → (noAdd f g x1 x2 x3 x4 x5) r = f r := fun r h => noAdd_ne h
  have hfj : ∀ r j, j ≠ g 5 → (noAdd f g x1 x2 x3 x4 x5) r j = f r j := fun r j h => noAdd_o hlt h
  have hf22 : (noAdd f g x1 x2 x3 x4 x5) 22 (g 5) = x1 := noAdd_22 hlt
  have hf23 : (noAdd f g x1 x2 x3 x4 x5) 23 (g 5) = x2 := noAdd_23 hlt
  have hf24 : (noAdd f g x1 x2 x3 x4 x5) 24 (g 5) = x3 := noAdd_24 hlt
  have hf25 : (noAdd f g x1 x2 x3 x4 x5) 25 (g 5) = x4 := noAdd_25 hlt
  have hf26 : (noAdd f g x1 x2 x3 x4 x5) 26 (g 5) = x5 := noAdd_26 hlt
  generalize (noAdd f g x1 x2 x3 x4 x5) = f' at hfr hfj hf22 hf23 hf24 hf25 hf26 ⊢
  have hmd : ∀ k, mD cp' g' k → k = 10 ∨ k = 200 + g 5 ∨ mD cp g k := fun k hk => by
    unfold mD at hk ⊢
    rcases hk with hk | hk | hk | hk | hk | hk | hk | hk | hk | hk
    · exact Or.inr (Or.inr (Or.inl hk))
    · exact Or.inr (Or.inr (Or.inr (Or.inl ⟨hk.1, by rw [← hp2 5 (by decide)]; exact hk.2⟩)))
    · exact Or.inr (Or.inr (Or.inr (Or.inr (Or.inl ⟨hk.1, by rw [← hp2 6 (by decide)]; exact hk.2⟩))))
    · exact Or.inl hk.1
    · rw [hg1] at hk; exact Or.inr (Or.inr (Or.inr (Or.inr (Or.inr (Or.inr (Or.inl hk))))))
    · rw [hg3] at hk; exact Or.inr (Or.inr (Or.inr (Or.inr (Or.inr (Or.inr (Or.inr (Or.inl hk)))))))
    · rw [hg3] at hk; exact Or.inr (Or.inr (Or.inr (Or.inr (Or.inr (Or.inr (Or.inr (Or.inr (Or.inl hk))))))))
    · rw [hg3] at hk; exact Or.inr (Or.inr (Or.inr (Or.inr (Or.inr (Or.inr (Or.inr (Or.inr (Or.inr (Or.inl ⟨hk.1, hk.2.1, hk.2.2.1, by rw [← hp2 (k - 10) (by omega)]; exact hk.2.2.2⟩)))))))))
    · rw [hg4] at hk; exact Or.inr (Or.inr (Or.inr (Or.inr (Or.inr (Or.inr (Or.inr (Or.inr (Or.inr (Or.inr (Or.inl hk))))))))))
    · rw [hgi] at hk; by_cases e9 : k = 200 + g 5
      · exact Or.inr (Or.inl e9)
      · exact Or.inr (Or.inr (Or.inr (Or.inr (Or.inr (Or.inr (Or.inr (Or.inr (Or.inr (Or.inr (Or.inr (⟨hk.1, by omega⟩)))))))))))
  have hBs : ∀ k, k < 8 → B' k = B k := fun k h => hBe k (by omega) (by omega)
  have hamL : ∀ i, amL f' i (g' 4) = amL f i (g 4) := fun i => by rw [hg4]; exact amL_cg (hfr 19 (by decide))
  have hls : lsE B' 200 (g' 5) = (fun i => if i = g 5 then some o else lsE B 200 (g 5) i) := by
    rw [hgi]; exact (lsE_1 (fun i h => hBe _ (by omega) (by omega)) hBo).symm
  have heA : eA G B' cp' 7 10 = a' := by unfold eA; rw [hp1, if_neg (by omega), hBj]
  refine ⟨B', mc', cp', mp_ch (K := fun k => k = 7 ∨ k = 10 ∨ k = 200 + g 5) hM ?_ ?_ ?_, db_ch (K := fun k => k = 200 + g 5 ∨ (k = 10 ∧ H.size ≤ a')) hB ?_ ?_ ?_, ?_, hBs 0 (by decide)⟩
  · refine ⟨⟨fun k => ?_, by rw [hg0]; exact i2, by rw [hg1]; exact i3, by rw [hg3]; exact i4, by rw [hg4]; exact i5, by rw [hgi]; omega⟩, ⟨by rw [hg1, hp2 5 (by decide)]; exact j1, by rw [hg3, hp2 6 (by decide)]; exact j2, by rw [hgi, hp1]; omega, fun i hi => by rw [hamL, hp2 (50 + i) (by omega)]; exact j4 i (by rw [← hg3]; exact hi), fun k => ?_⟩, fun i hi => by rw [hfr 17 (by decide)]; exact k1 i (by rw [← hg3]; exact hi), fun a h => by rw [hfr 15 (by decide)]; exact k2 a h, fun i hi => ?_⟩
    · by_cases e9 : k = 5
      · subst e9; rw [hgi]; omega
      · rw [hgo k e9]; exact i1 k
    · by_cases e9 : k = 7
      · subst e9; rw [hp1]; exact hc3.1
      · rw [hp2 k e9]; exact j5 k
    · rw [hfr 10 (by decide)]; exact k3 i (by rw [← hg1]; exact hi)
  · intro k hk _
    rcases hk with rfl | rfl | rfl
    · rw [hBs 7 (by decide)]
      show va_at G.1 vwCl (B 7, .inr (0, [.int (mc' 7), .ref (eA G B' cp' 7 10), .int (nI (g' 5))])) t
      rw [heA, hm1, hgi]; exact h1
    · rw [hBj]
      show va_at G.1 vwCl (a', .inl (G.2.1 1, gRef (cp' 7) (lsE B' 200 (g' 5)))) t
      rw [hp1, hls]; exact h2
    · rw [hBo]
      rw [mC_no]
      rw [hf22, hf23, hf24, hf25, hf26]
      exact va_at.kept ho (hq o hol (Ne.symm (hfo 7 hq5)) hoA)
  · intro k hk hnk
    have hn1 : k ≠ 7 := fun z => hnk (Or.inl z)
    have hn2 : k ≠ 10 := fun z => hnk (Or.inr (Or.inl z))
    have hn3 : k ≠ 200 + g 5 := fun z => hnk (Or.inr (Or.inr z))
    have hkm : mD cp g k := ((hmd k hk).resolve_left hn2).resolve_left hn3
    refine ⟨hkm, hBe k hn2 hn3, ?_, hq (B k) (mp_lt hM hkm) (hne5 k hkm hn1) (hneA k hkm hn2)⟩
    refine mC_cg (fun _ => ⟨rfl, hg0, hg7, hg4, hBs 5 (by decide), hBs 1 (by decide), hBs 2 (by decide), hBs 6 (by decide), hBs 7 (by decide), hBs 3 (by decide), hBs 4 (by decide)⟩) (fun _ => hfr 15 (by decide)) (fun _ => hfr 16 (by decide)) (fun _ => hfr 28 (by decide)) (fun _ => hfr 29 (by decide)) ?_ ?_ ?_ ?_ ?_ ?_ ?_ ?_ ?_ ?_ ?_ ?_
    · exact fun _ => ⟨hm2 5 (by decide), by unfold eA; rw [hp2 5 (by decide), hBe 8 (by decide) (by omega)], hg1⟩
    · exact fun _ => ⟨hm2 6 (by decide), by unfold eA; rw [hp2 6 (by decide), hBe 9 (by decide) (by omega)], hg3⟩
    · exact fun z => absurd z hn1
    · exact fun _ => ⟨hp2 5 (by decide), by rw [hg1]; exact lsE_cg fun i hi => hBe _ (by omega) (by omega)⟩
    · exact fun _ => ⟨hp2 6 (by decide), by rw [hg3]; exact lsE_cg fun i hi => hBe _ (by omega) (by omega)⟩
    · exact fun z => absurd z hn2
    · exact fun _ _ => ⟨congrFun (hfr 10 (by decide)) _, congrFun (hfr 11 (by decide)) _, congrFun (hfr 12 (by decide)) _, congrFun (hfr 13 (by decide)) _, congrFun (hfr 14 (by decide)) _⟩
    · exact fun z1 z2 => ⟨congrFun (hfr 17 (by decide)) _, congrFun (hfr 18 (by decide)) _, hBe _ (by omega) (by omega)⟩
    · exact fun z1 z2 => ⟨hm2 k (by omega), by unfold eA; rw [hp2 k (by omega), hBe (k + 10) (by omega) (by omega)], hamL _⟩
    · exact fun z1 z2 => ⟨hp2 (k - 10) (by omega), by rw [hamL]; exact amE_cg fun j hj => hBe _ (by omega) (by have := amL_mem hj; omega)⟩
    · exact fun _ _ => ⟨congrFun (hfr 20 (by decide)) _, congrFun (hfr 21 (by decide)) _⟩
    · exact fun z1 => ⟨hfj 22 _ (by omega), hfj 23 _ (by omega), hfj 24 _ (by omega), hfj 25 _ (by omega), hfj 26 _ (by omega)⟩
  · intro k hk
    rcases hmd k hk with z | z | z
    · rcases hat with ⟨w1, w2⟩ | w
      · exact Or.inr ⟨by rw [z]; exact hqj w1, by rw [z, hBj]; exact w2⟩
      · exact Or.inl (Or.inr ⟨z, w⟩)
    · exact Or.inl (Or.inl z)
    · by_cases z1 : k = 10
      · rcases hat with ⟨w1, w2⟩ | w
        · exact Or.inr ⟨z, by rw [z1, hBj]; exact w2⟩
        · exact Or.inl (Or.inr ⟨z1, w⟩)
      · by_cases z2 : k = 200 + g 5
        · exact Or.inl (Or.inl z2)
        · exact Or.inr ⟨z, hBe k z1 z2⟩
  · intro k hk
    rcases hk with rfl | ⟨rfl, w⟩
    · rw [hBo]; exact ⟨hDo, hfo⟩
    · rw [hBj]; exact ⟨hDn _ w, fun j hj => Nat.ne_of_lt (Nat.lt_of_lt_of_le (mp_lt hM hj) w)⟩
  · intro j k hj hk z
    rcases hj with rfl | ⟨rfl, w⟩
    · rcases hk with rfl | ⟨rfl, w⟩
      · rfl
      · rw [hBo, hBj] at z; omega
    · rcases hk with rfl | ⟨rfl, w⟩
      · rw [hBo, hBj] at z; omega
      · rfl
  · intro k
    by_cases z : k = 7
    · rw [z, hp1]; exact Or.inr hc2
    · rw [hp2 k z]; exact hcp k
