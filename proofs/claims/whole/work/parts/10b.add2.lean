theorem mC_pr {G : GT} {B : Nat → Nat} {th : Int32} {mc : Nat → Int32} {cp g : Nat → Nat} {f : Nat → Nat → Int32} {i : Nat} (h : i < 10) : mC G B th mc cp f g (40 + i) = .inr (11, [.int (f 17 i), .int (f 18 i), .ref (B (50 + i))]) := by
  unfold mC
  rw [if_neg (by omega), if_neg (by omega), if_neg (by omega), if_neg (by omega), if_neg (by omega), if_neg (by omega), if_neg (by omega), if_neg (by omega), if_neg (by omega), if_neg (by omega), if_neg (by omega), if_neg (by omega), if_pos (by omega), Nat.add_sub_cancel_left, show 40 + i + 10 = 50 + i by omega]
theorem mC_pl {G : GT} {B : Nat → Nat} {th : Int32} {mc : Nat → Int32} {cp g : Nat → Nat} {f : Nat → Nat → Int32} {i : Nat} (h : i < 10) : mC G B th mc cp f g (50 + i) = .inr (0, [.int (mc (50 + i)), .ref (eA G B cp (50 + i) (60 + i)), .int (nI (amL f i (g 4)).length)]) := by
  unfold mC
  rw [if_neg (by omega), if_neg (by omega), if_neg (by omega), if_neg (by omega), if_neg (by omega), if_neg (by omega), if_neg (by omega), if_neg (by omega), if_neg (by omega), if_neg (by omega), if_neg (by omega), if_neg (by omega), if_neg (by omega), if_pos (by omega), Nat.add_sub_cancel_left, show 50 + i + 10 = 60 + i by omega]
theorem mC_pe {G : GT} {B : Nat → Nat} {th : Int32} {mc : Nat → Int32} {cp g : Nat → Nat} {f : Nat → Nat → Int32} {i : Nat} (h : i < 10) : mC G B th mc cp f g (60 + i) = .inl (G.2.1 1, gRef (cp (50 + i)) (amE B (amL f i (g 4)))) := by
  unfold mC
  rw [if_neg (by omega), if_neg (by omega), if_neg (by omega), if_neg (by omega), if_neg (by omega), if_neg (by omega), if_neg (by omega), if_neg (by omega), if_neg (by omega), if_neg (by omega), if_neg (by omega), if_neg (by omega), if_neg (by omega), if_neg (by omega), if_pos (by omega), Nat.add_sub_cancel_left, show 60 + i - 10 = 50 + i by omega]
theorem mC_am {G : GT} {B : Nat → Nat} {th : Int32} {mc : Nat → Int32} {cp g : Nat → Nat} {f : Nat → Nat → Int32} {i : Nat} (h : i < 100) : mC G B th mc cp f g (100 + i) = .inl (G.2.1 0, 2, .inl (fun q => if q = 0 then f 20 i else f 21 i)) := by
  unfold mC
  rw [if_neg (by omega), if_neg (by omega), if_neg (by omega), if_neg (by omega), if_neg (by omega), if_neg (by omega), if_neg (by omega), if_neg (by omega), if_neg (by omega), if_neg (by omega), if_neg (by omega), if_neg (by omega), if_neg (by omega), if_neg (by omega), if_neg (by omega), if_pos (by omega), Nat.add_sub_cancel_left]
/-! ===== one procedure more ===== -/
theorem prAdd_fS {f : Nat → Nat → Int32} {g : Nat → Nat} {x1 x2 : Int32} (h : g 3 < 4) : prAdd f g x1 x2 = fS (fS f 17 (g 3) x1) 18 (g 3) x2 := by
  unfold prAdd
  rw [rowPut_fS (k := 17) h, rowPut_fS (k := 18) h]
theorem prAdd_ne {f : Nat → Nat → Int32} {g : Nat → Nat} {x1 x2 : Int32} {r : Nat} (hr : r < 17 ∨ 18 < r) : prAdd f g x1 x2 r = f r := by
  unfold prAdd rowPut
  rw [if_neg (by omega), if_neg (by omega)]
theorem prAdd_o {f : Nat → Nat → Int32} {g : Nat → Nat} {x1 x2 : Int32} {r j : Nat} (h : g 3 < 4) (hj : j ≠ g 3) : prAdd f g x1 x2 r j = f r j := by
  rw [prAdd_fS h, fS_o hj, fS_o hj]
theorem prAdd_17 {f : Nat → Nat → Int32} {g : Nat → Nat} {x1 x2 : Int32} (h : g 3 < 4) : prAdd f g x1 x2 17 (g 3) = x1 := by
  rw [prAdd_fS h, fS_ne (by decide), fS_i]
theorem prAdd_18 {f : Nat → Nat → Int32} {g : Nat → Nat} {x1 x2 : Int32} (h : g 3 < 4) : prAdd f g x1 x2 18 (g 3) = x2 := by
  rw [prAdd_fS h, fS_i]
set_option maxHeartbeats 2000000 in
theorem mp_addP {G : GT} {D : Nat → Prop} {B : Nat → Nat} {th : Int32} {mc : Nat → Int32} {cp : Nat → Nat} {f : Nat → Nat → Int32} {g : Nat → Nat} {H t : Heap} {o ol : Nat} {x1 x2 : Int32} {v : Option Value} (hM : MP G B th mc cp f g H) (hB : DB D B cp g) (hDn : ∀ q, H.size ≤ q → D q) (hDs : ∀ q, D q → G.2.2.1 ≤ q) (hs0 : G.2.2.2 0 < G.2.2.1) (hst : stE G t) (ho : va_at G.1 vwCl (o, .inr (11, [.int x1, .int x2, .ref ol])) H) (hl : va_at G.1 vwCl (ol, .inr (0, [.int 0, .ref (G.2.2.2 0), .int 0])) H) (hDo : D o) (hDl : D ol) (hool : o ≠ ol) (hfo : ∀ k, mD cp g k → B k ≠ o) (hfl : ∀ k, mD cp g k → B k ≠ ol) (hcp : CG cp) (hlt : g 3 < 4) (hx : ∃ a, a < 3 ∧ x1 = nI a) (ham : ∀ j, j < g 4 → ∃ i, i < g 3 ∧ f 19 j = nI i) (hP : adQ G H (B 6) (eA G B cp 6 9) (g 3) o (mc 6) (lsE B 40 (g 3)) v t) : v = some (.int 1) ∧ ∃ (B' : Nat → Nat) (mc' : Nat → Int32) (cp' : Nat → Nat), MP G B' th mc' cp' (prAdd f g x1 x2) (gset g 3 (g 3 + 1)) t ∧ DB D B' cp' (gset g 3 (g 3 + 1)) ∧ CG cp' ∧ B' 0 = B 0 := by
  obtain ⟨hv, a', c', ⟨hc1, hc2⟩, ha, h1, h2, hz, hq⟩ := hP
  refine ⟨hv, ?_⟩
  obtain ⟨⟨i1, i2, i3, i4, i5, i6⟩, ⟨j1, j2, j3, j4, j5⟩, k1, k2, k3⟩ := hM.1
  have hc3 := cG_lt hc2
  have hat : (cp 6 ≠ 0 ∧ a' = B 9) ∨ H.size ≤ a' := ad_at hst hc3.1 hc3.2 ha h2
  have hol : o < H.size := va_at.lt ho
  have hll : ol < H.size := va_at.lt hl
  have hq5 : mD cp g 6 := Or.inl (by decide)
  have hqj : cp 6 ≠ 0 → mD cp g 9 := fun h => Or.inr (Or.inr (Or.inl ⟨rfl, h⟩))
  have hne5 : ∀ k, mD cp g k → k ≠ 6 → B k ≠ B 6 := fun k hk h e => h (hB.2 k 6 hk hq5 e)
  have hneA : ∀ k, mD cp g k → k ≠ 9 → B k ≠ eA G B cp 6 9 := fun k hk h e => by
    unfold eA at e
    by_cases e2 : cp 6 = 0
    · rw [if_pos e2] at e
      have := hDs _ (hB.1 k hk)
      omega
    · rw [if_neg e2] at e
      exact h (hB.2 k 9 hk (hqj e2) e)
  have hoA : o ≠ eA G B cp 6 9 := fun e => by
    unfold eA at e
    by_cases e2 : cp 6 = 0
    · rw [if_pos e2] at e
      have := hDs _ hDo
      omega
    · rw [if_neg e2] at e
      exact hfo _ (hqj e2) e.symm
  have holA : ol ≠ eA G B cp 6 9 := fun e => by
    unfold eA at e
    by_cases e2 : cp 6 = 0
    · rw [if_pos e2] at e
      have := hDs _ hDl
      omega
    · rw [if_neg e2] at e
      exact hfl _ (hqj e2) e.symm
  obtain ⟨B', hBj, hBo, hBl, hBe⟩ : ∃ B' : Nat → Nat, B' 9 = a' ∧ B' (40 + g 3) = o ∧ B' (50 + g 3) = ol ∧ ∀ k, k ≠ 9 → k ≠ 40 + g 3 → k ≠ 50 + g 3 → B' k = B k := ⟨fun k => if k = 9 then a' else if k = 40 + g 3 then o else if k = 50 + g 3 then ol else B k, if_pos rfl, by dsimp only; rw [if_neg (by omega), if_pos rfl], by dsimp only; rw [if_neg (by omega), if_neg (by omega), if_pos rfl], fun k h1 h2 h3 => by dsimp only; rw [if_neg h1, if_neg h2, if_neg h3]⟩
  obtain ⟨mc', hm1, hm3, hm2⟩ : ∃ mc' : Nat → Int32, mc' 6 = mc 6 + 1 ∧ mc' (50 + g 3) = 0 ∧ ∀ k, k ≠ 6 → k ≠ 50 + g 3 → mc' k = mc k := ⟨fun k => if k = 6 then mc 6 + 1 else if k = 50 + g 3 then 0 else mc k, if_pos rfl, by dsimp only; rw [if_neg (by omega), if_pos rfl], fun k h h2 => by dsimp only; rw [if_neg h, if_neg h2]⟩
  obtain ⟨cp', hp1, hp3, hp2⟩ : ∃ cp' : Nat → Nat, cp' 6 = c' ∧ cp' (50 + g 3) = 0 ∧ ∀ k, k ≠ 6 → k ≠ 50 + g 3 → cp' k = cp k := ⟨fun k => if k = 6 then c' else if k = 50 + g 3 then 0 else cp k, if_pos rfl, by dsimp only; rw [if_neg (by omega), if_pos rfl], fun k h h2 => by dsimp only; rw [if_neg h, if_neg h2]⟩
  have hgi : gset g 3 (g 3 + 1) 3 = g 3 + 1 := if_pos rfl
  have hgo : ∀ k, k ≠ 3 → gset g 3 (g 3 + 1) k = g k := fun k h => if_neg h
  have hg0 := hgo 0 (by decide)
  have hg1 := hgo 1 (by decide)
  have hg4 := hgo 4 (by decide)
  have hg5 := hgo 5 (by decide)
  have hg7 := hgo 7 (by decide)
  have hfr : ∀ r, (r < 17 ∨ 18 < r) → (prAdd f g x1 x2) r = f r := fun r h => prAdd_ne h
  have hfj : ∀ r j, j ≠ g 3 → (prAdd f g x1 x2) r j = f r j := fun r j h => prAdd_o hlt h
  have hf17 : (prAdd f g x1 x2) 17 (g 3) = x1 := prAdd_17 hlt
  have hf18 : (prAdd f g x1 x2) 18 (g 3) = x2 := prAdd_18 hlt
  generalize hgg : gset g 3 (g 3 + 1) = g' at hgi hgo hg0 hg1 hg4 hg5 hg7 ⊢
  generalize (prAdd f g x1 x2) = f' at hfr hfj hf17 hf18 ⊢
  have hmd : ∀ k, mD cp' g' k → k = 9 ∨ k = 40 + g 3 ∨ k = 50 + g 3 ∨ mD cp g k := fun k hk => by
    unfold mD at hk ⊢
    rcases hk with hk | hk | hk | hk | hk | hk | hk | hk | hk | hk
    · exact Or.inr (Or.inr (Or.inr (Or.inl hk)))
    · exact Or.inr (Or.inr (Or.inr (Or.inr (Or.inl ⟨hk.1, by rw [← hp2 5 (by decide) (by omega)]; exact hk.2⟩))))
    · exact Or.inl hk.1
    · exact Or.inr (Or.inr (Or.inr (Or.inr (Or.inr (Or.inr (Or.inl ⟨hk.1, by rw [← hp2 7 (by decide) (by omega)]; exact hk.2⟩))))))
    · rw [hg1] at hk; exact Or.inr (Or.inr (Or.inr (Or.inr (Or.inr (Or.inr (Or.inr (Or.inl hk)))))))
    · rw [hgi] at hk; by_cases e9 : k = 40 + g 3
      · exact Or.inr (Or.inl e9)
      · exact Or.inr (Or.inr (Or.inr (Or.inr (Or.inr (Or.inr (Or.inr (Or.inr (Or.inl ⟨hk.1, by omega, hk.2.2⟩))))))))
    · rw [hgi] at hk; by_cases e9 : k = 50 + g 3
      · exact Or.inr (Or.inr (Or.inl e9))
      · exact Or.inr (Or.inr (Or.inr (Or.inr (Or.inr (Or.inr (Or.inr (Or.inr (Or.inr (Or.inl ⟨hk.1, by omega, hk.2.2⟩)))))))))
    · rw [hgi] at hk; by_cases e9 : k = 60 + g 3
      · exact absurd (by rw [show k - 10 = 50 + g 3 by omega]; exact hp3) hk.2.2.2
      · exact Or.inr (Or.inr (Or.inr (Or.inr (Or.inr (Or.inr (Or.inr (Or.inr (Or.inr (Or.inr (Or.inl ⟨hk.1, by omega, hk.2.2.1, by rw [← hp2 (k - 10) (by omega) (by omega)]; exact hk.2.2.2⟩))))))))))
    · rw [hg4] at hk; exact Or.inr (Or.inr (Or.inr (Or.inr (Or.inr (Or.inr (Or.inr (Or.inr (Or.inr (Or.inr (Or.inr (Or.inl hk)))))))))))
    · rw [hg5] at hk; exact Or.inr (Or.inr (Or.inr (Or.inr (Or.inr (Or.inr (Or.inr (Or.inr (Or.inr (Or.inr (Or.inr (Or.inr (hk))))))))))))
  have hBs : ∀ k, k < 8 → B' k = B k := fun k h => hBe k (by omega) (by omega) (by omega)
  have hamL : ∀ i, amL f' i (g' 4) = amL f i (g 4) := fun i => by rw [hg4]; exact amL_cg (hfr 19 (by decide))
  have hams : amL f (g 3) (g 4) = [] := by
    unfold amL
    rw [List.filter_eq_nil_iff]
    intro j hj h9
    obtain ⟨i, hi, h10⟩ := ham j (List.mem_range.mp hj)
    have h11 : f 19 j = nI (g 3) := of_decide_eq_true h9
    have h12 := (nI_eq (by omega) (by omega)).mp (h10.symm.trans h11)
    omega
  have hls : lsE B' 40 (g' 3) = (fun i => if i = g 3 then some o else lsE B 40 (g 3) i) := by
    rw [hgi]; exact (lsE_1 (fun i h => hBe _ (by omega) (by omega) (by omega)) hBo).symm
  have heA : eA G B' cp' 6 9 = a' := by unfold eA; rw [hp1, if_neg (by omega), hBj]
  refine ⟨B', mc', cp', mp_ch (K := fun k => k = 6 ∨ k = 9 ∨ k = 40 + g 3 ∨ k = 50 + g 3) hM ?_ ?_ ?_, db_ch (K := fun k => k = 40 + g 3 ∨ k = 50 + g 3 ∨ (k = 9 ∧ H.size ≤ a')) hB ?_ ?_ ?_, ?_, hBs 0 (by decide)⟩
  · refine ⟨⟨fun k => ?_, by rw [hg0]; exact i2, by rw [hg1]; exact i3, by rw [hgi]; omega, by rw [hg4]; exact i5, by rw [hg5]; exact i6⟩, ⟨by rw [hg1, hp2 5 (by decide) (by omega)]; exact j1, by rw [hgi, hp1]; omega, by rw [hg5, hp2 7 (by decide) (by omega)]; exact j3, fun i hi => ?_, fun k => ?_⟩, fun i hi => ?_, fun a h => by rw [hfr 15 (by decide)]; exact k2 a h, fun i hi => by rw [hfr 10 (by decide)]; exact k3 i (by rw [← hg1]; exact hi)⟩
    · by_cases e9 : k = 3
      · subst e9; rw [hgi]; omega
      · rw [hgo k e9]; exact i1 k
    · rw [hamL]
      by_cases e9 : i = g 3
      · rw [e9, hams]; exact Nat.zero_le _
      · rw [hp2 (50 + i) (by omega) (by omega)]; exact j4 i (by omega)
    · by_cases e9 : k = 6
      · subst e9; rw [hp1]; exact hc3.1
      · by_cases e8 : k = 50 + g 3
        · rw [e8, hp3]; decide
        · rw [hp2 k e9 e8]; exact j5 k
    · by_cases e9 : i = g 3
      · rw [e9, hf17]; exact hx
      · rw [hfj 17 i e9]; exact k1 i (by omega)
  · intro k hk _
    rcases hk with rfl | rfl | rfl | rfl
    · rw [hBs 6 (by decide)]
      show va_at G.1 vwCl (B 6, .inr (0, [.int (mc' 6), .ref (eA G B' cp' 6 9), .int (nI (g' 3))])) t
      rw [heA, hm1, hgi]; exact h1
    · rw [hBj]
      show va_at G.1 vwCl (a', .inl (G.2.1 1, gRef (cp' 6) (lsE B' 40 (g' 3)))) t
      rw [hp1, hls]; exact h2
    · rw [hBo, mC_pr (by omega), hf17, hf18, hBl]
      exact va_at.kept ho (hq o hol (Ne.symm (hfo 6 hq5)) hoA)
    · rw [hBl, mC_pl (by omega), hm3, hamL, hams]
      have hes : eA G B' cp' (50 + g 3) (60 + g 3) = G.2.2.2 0 := by unfold eA; rw [hp3, if_pos rfl]
      rw [hes]
      exact va_at.kept hl (hq ol hll (Ne.symm (hfl 6 hq5)) holA)
  · intro k hk hnk
    have hn1 : k ≠ 6 := fun z => hnk (Or.inl z)
    have hn2 : k ≠ 9 := fun z => hnk (Or.inr (Or.inl z))
    have hn3 : k ≠ 40 + g 3 := fun z => hnk (Or.inr (Or.inr (Or.inl z)))
    have hn4 : k ≠ 50 + g 3 := fun z => hnk (Or.inr (Or.inr (Or.inr z)))
    have hkm : mD cp g k := (((hmd k hk).resolve_left hn2).resolve_left hn3).resolve_left hn4
    refine ⟨hkm, hBe k hn2 hn3 hn4, ?_, hq (B k) (mp_lt hM hkm) (hne5 k hkm hn1) (hneA k hkm hn2)⟩
    have hkm2 := hkm
    unfold mD at hkm2
    refine mC_cg (fun _ => ⟨rfl, hg0, hg7, hg4, hBs 5 (by decide), hBs 1 (by decide), hBs 2 (by decide), hBs 6 (by decide), hBs 7 (by decide), hBs 3 (by decide), hBs 4 (by decide)⟩) (fun _ => hfr 15 (by decide)) (fun _ => hfr 16 (by decide)) (fun _ => hfr 28 (by decide)) (fun _ => hfr 29 (by decide)) ?_ ?_ ?_ ?_ ?_ ?_ ?_ ?_ ?_ ?_ ?_ ?_
    · exact fun _ => ⟨hm2 5 (by decide) (by omega), by unfold eA; rw [hp2 5 (by decide) (by omega), hBe 8 (by decide) (by omega) (by omega)], hg1⟩
    · exact fun z => absurd z hn1
    · exact fun _ => ⟨hm2 7 (by decide) (by omega), by unfold eA; rw [hp2 7 (by decide) (by omega), hBe 10 (by decide) (by omega) (by omega)], hg5⟩
    · exact fun _ => ⟨hp2 5 (by decide) (by omega), by rw [hg1]; exact lsE_cg fun i hi => hBe _ (by omega) (by omega) (by omega)⟩
    · exact fun z => absurd z hn2
    · exact fun _ => ⟨hp2 7 (by decide) (by omega), by rw [hg5]; exact lsE_cg fun i hi => hBe _ (by omega) (by omega) (by omega)⟩
    · exact fun _ _ => ⟨congrFun (hfr 10 (by decide)) _, congrFun (hfr 11 (by decide)) _, congrFun (hfr 12 (by decide)) _, congrFun (hfr 13 (by decide)) _, congrFun (hfr 14 (by decide)) _⟩
    · exact fun z1 z2 => ⟨hfj 17 _ (by omega), hfj 18 _ (by omega), hBe _ (by omega) (by omega) (by omega)⟩
    · exact fun z1 z2 => ⟨hm2 k (by omega) hn4, by unfold eA; rw [hp2 k (by omega) hn4, hBe (k + 10) (by omega) (by omega) (by omega)], hamL _⟩
    · exact fun z1 z2 => ⟨hp2 (k - 10) (by omega) (by omega), by rw [hamL]; exact amE_cg fun j hj => hBe _ (by omega) (by have := amL_mem hj; omega) (by have := amL_mem hj; omega)⟩
    · exact fun _ _ => ⟨congrFun (hfr 20 (by decide)) _, congrFun (hfr 21 (by decide)) _⟩
    · exact fun _ => ⟨congrFun (hfr 22 (by decide)) _, congrFun (hfr 23 (by decide)) _, congrFun (hfr 24 (by decide)) _, congrFun (hfr 25 (by decide)) _, congrFun (hfr 26 (by decide)) _⟩
  · intro k hk
    rcases hmd k hk with z | z | z | z
    · rcases hat with ⟨w1, w2⟩ | w
      · exact Or.inr ⟨by rw [z]; exact hqj w1, by rw [z, hBj]; exact w2⟩
      · exact Or.inl (Or.inr (Or.inr ⟨z, w⟩))
    · exact Or.inl (Or.inl z)
    · exact Or.inl (Or.inr (Or.inl z))
    · by_cases z1 : k = 9
      · rcases hat with ⟨w1, w2⟩ | w
        · exact Or.inr ⟨z, by rw [z1, hBj]; exact w2⟩
        · exact Or.inl (Or.inr (Or.inr ⟨z1, w⟩))
      · by_cases z2 : k = 40 + g 3
        · exact Or.inl (Or.inl z2)
        · by_cases z3 : k = 50 + g 3
          · exact Or.inl (Or.inr (Or.inl z3))
          · exact Or.inr ⟨z, hBe k z1 z2 z3⟩
  · intro k hk
    rcases hk with rfl | rfl | ⟨rfl, w⟩
    · rw [hBo]; exact ⟨hDo, hfo⟩
    · rw [hBl]; exact ⟨hDl, hfl⟩
    · rw [hBj]; exact ⟨hDn _ w, fun j hj => Nat.ne_of_lt (Nat.lt_of_lt_of_le (mp_lt hM hj) w)⟩
  · intro j k hj hk z
    rcases hj with rfl | rfl | ⟨rfl, w⟩ <;> rcases hk with rfl | rfl | ⟨rfl, w2⟩ <;> first | rfl | (exfalso; simp only [hBo, hBl, hBj] at z; omega)
  · intro k
    by_cases z : k = 6
    · rw [z, hp1]; exact Or.inr hc2
    · by_cases z2 : k = 50 + g 3
      · rw [z2, hp3]; exact Or.inl rfl
      · rw [hp2 k z z2]; exact hcp k
/-! ===== one amendment more ===== -/
theorem amAdd_fS {f : Nat → Nat → Int32} {g : Nat → Nat} {x1 x2 x3 : Int32} (h : g 4 < 20) : amAdd f g x1 x2 x3 = fS (fS (fS f 19 (g 4) x1) 20 (g 4) x2) 21 (g 4) x3 := by
  unfold amAdd
  rw [rowPut_fS (k := 19) h, rowPut_fS (k := 20) h, rowPut_fS (k := 21) h]
theorem amAdd_ne {f : Nat → Nat → Int32} {g : Nat → Nat} {x1 x2 x3 : Int32} {r : Nat} (hr : r < 19 ∨ 21 < r) : amAdd f g x1 x2 x3 r = f r := by
  unfold amAdd rowPut
  rw [if_neg (by omega), if_neg (by omega), if_neg (by omega)]
theorem amAdd_o {f : Nat → Nat → Int32} {g : Nat → Nat} {x1 x2 x3 : Int32} {r j : Nat} (h : g 4 < 20) (hj : j ≠ g 4) : amAdd f g x1 x2 x3 r j = f r j := by
  rw [amAdd_fS h, fS_o hj, fS_o hj, fS_o hj]
theorem amAdd_19 {f : Nat → Nat → Int32} {g : Nat → Nat} {x1 x2 x3 : Int32} (h : g 4 < 20) : amAdd f g x1 x2 x3 19 (g 4) = x1 := by
  rw [amAdd_fS h, fS_ne (by decide), fS_ne (by decide), fS_i]
theorem amAdd_20 {f : Nat → Nat → Int32} {g : Nat → Nat} {x1 x2 x3 : Int32} (h : g 4 < 20) : amAdd f g x1 x2 x3 20 (g 4) = x2 := by
  rw [amAdd_fS h, fS_ne (by decide), fS_i]
theorem amAdd_21 {f : Nat → Nat → Int32} {g : Nat → Nat} {x1 x2 x3 : Int32} (h : g 4 < 20) : amAdd f g x1 x2 x3 21 (g 4) = x3 := by
  rw [amAdd_fS h, fS_i]
theorem amL_s {f f' : Nat → Nat → Int32} {n : Nat} (h : ∀ j, j < n → f' 19 j = f 19 j) (i : Nat) : amL f' i (n + 1) = amL f i n ++ (if f' 19 n = nI i then [n] else []) := by
  unfold amL
  rw [List.range_succ, List.filter_append]
  congr 1
  · refine List.filter_congr fun j hj => ?_
    rw [h j (List.mem_range.mp hj)]
  · by_cases e : f' 19 n = nI i
    · rw [if_pos e]; simp [e]
    · rw [if_neg e]; simp [e]
theorem amE_1 {B B' : Nat → Nat} {L : List Nat} {n x : Nat} (h : ∀ j, j ∈ L → B' (100 + j) = B (100 + j)) (hx : B' (100 + n) = x) : (fun q => if q = L.length then some x else amE B L q) = amE B' (L ++ [n]) := by
  funext q
  unfold amE
  by_cases e : q = L.length
  · subst e
    rw [if_pos rfl, List.getElem?_append_right (Nat.le_refl _), Nat.sub_self]
    show some x = some (B' (100 + n))
    rw [hx]
  · rw [if_neg e]
    by_cases e2 : q < L.length
    · rw [List.getElem?_append_left e2, List.getElem?_eq_getElem e2]
      exact congrArg some (h _ (List.getElem_mem e2)).symm
    · rw [List.getElem?_eq_none (by omega), List.getElem?_eq_none (by rw [List.length_append]; show L.length + 1 ≤ q; omega)]
      rfl
set_option maxHeartbeats 2000000 in
theorem mp_addA {G : GT} {D : Nat → Prop} {B : Nat → Nat} {th : Int32} {mc : Nat → Int32} {cp : Nat → Nat} {f : Nat → Nat → Int32} {g : Nat → Nat} {H t : Heap} {t2 : Heap} {o i : Nat} {x2 x3 : Int32} {v : Option Value} (hM : MP G B th mc cp f g H) (hB : DB D B cp g) (hDn : ∀ q, H.size ≤ q → D q) (hDs : ∀ q, D q → G.2.2.1 ≤ q) (hs0 : G.2.2.2 0 < G.2.2.1) (hst : stE G t) (hi : i < g 3) (ho : va_at G.1 vwCl (o, .inl (G.2.1 0, 2, .inl (fun q => if q = 0 then x2 else x3))) H) (hDo : D o) (hfo : ∀ k, mD cp g k → B k ≠ o) (hcp : CG cp) (hlt : g 4 < 20) (hP : adQ G H (B (50 + i)) (eA G B cp (50 + i) (60 + i)) (amL f i (g 4)).length o (mc (50 + i)) (amE B (amL f i (g 4))) v t) (h0 : va_at G.1 vwCl (B 0, .inr (12, [.int th, .int (nI (g 0)), .int (nI (g 7)), .int (nI (g 4 + 1)), .ref (B 5), .ref (B 1), .ref (B 2), .ref (B 6), .ref (B 7), .ref (B 3), .ref (B 4)])) t2) (hq2 : ∀ q : Nat, q ≠ B 0 → t2[q]? = t[q]?) : ∃ (B' : Nat → Nat) (mc' : Nat → Int32) (cp' : Nat → Nat), MP G B' th mc' cp' (amAdd f g (nI i) x2 x3) (gset g 4 (g 4 + 1)) t2 ∧ DB D B' cp' (gset g 4 (g 4 + 1)) ∧ CG cp' ∧ B' 0 = B 0 := by
  obtain ⟨hv, a', c', ⟨hc1, hc2⟩, ha, h1, h2, hz, hq⟩ := hP
  obtain ⟨⟨i1, i2, i3, i4, i5, i6⟩, ⟨j1, j2, j3, j4, j5⟩, k1, k2, k3⟩ := hM.1
  have hc3 := cG_lt hc2
  have hat : (cp (50 + i) ≠ 0 ∧ a' = B (60 + i)) ∨ H.size ≤ a' := ad_at hst hc3.1 hc3.2 ha h2
  have hol : o < H.size := va_at.lt ho
  have hq5 : mD cp g (50 + i) := Or.inr (Or.inr (Or.inr (Or.inr (Or.inr (Or.inr (Or.inl ⟨by omega, by omega, by omega⟩))))))
  have hqj : cp (50 + i) ≠ 0 → mD cp g (60 + i) := fun h => Or.inr (Or.inr (Or.inr (Or.inr (Or.inr (Or.inr (Or.inr (Or.inl ⟨by omega, by omega, by omega, by rw [show 60 + i - 10 = 50 + i by omega]; exact h⟩)))))))
  have hne5 : ∀ k, mD cp g k → k ≠ (50 + i) → B k ≠ B (50 + i) := fun k hk h e => h (hB.2 k (50 + i) hk hq5 e)
  have hneA : ∀ k, mD cp g k → k ≠ (60 + i) → B k ≠ eA G B cp (50 + i) (60 + i) := fun k hk h e => by
    unfold eA at e
    by_cases e2 : cp (50 + i) = 0
    · rw [if_pos e2] at e
      have := hDs _ (hB.1 k hk)
      omega
    · rw [if_neg e2] at e
      exact h (hB.2 k (60 + i) hk (hqj e2) e)
  have hoA : o ≠ eA G B cp (50 + i) (60 + i) := fun e => by
    unfold eA at e
    by_cases e2 : cp (50 + i) = 0
    · rw [if_pos e2] at e
      have := hDs _ hDo
      omega
    · rw [if_neg e2] at e
      exact hfo _ (hqj e2) e.symm
  have hq0 : mD cp g 0 := Or.inl (by decide)
  have hb05 : B 0 ≠ B (50 + i) := hne5 0 hq0 (by omega)
  have h21 := va_at.kept h1 (hq2 _ (Ne.symm hb05))
  have haB : a' ≠ B 0 := fun z => by
    rcases hat with ⟨w1, w2⟩ | w
    · exact absurd (hB.2 (60 + i) 0 (hqj w1) hq0 (w2.symm.trans z)) (by omega)
    · have := mp_lt hM hq0; omega
  have h22 := va_at.kept h2 (hq2 _ haB)
  have hoB : o ≠ B 0 := Ne.symm (hfo 0 hq0)
  have hq3 : ∀ q : Nat, q < H.size → q ≠ B (50 + i) → q ≠ eA G B cp (50 + i) (60 + i) → q ≠ B 0 → t2[q]? = H[q]? := fun q w1 w2 w3 w4 => (hq2 q w4).trans (hq q w1 w2 w3)
  obtain ⟨B', hBj, hBo, hBe⟩ : ∃ B' : Nat → Nat, B' (60 + i) = a' ∧ B' (100 + g 4) = o ∧ ∀ k, k ≠ 60 + i → k ≠ 100 + g 4 → B' k = B k := ⟨fun k => if k = 60 + i then a' else if k = 100 + g 4 then o else B k, if_pos rfl, by dsimp only; rw [if_neg (by omega), if_pos rfl], fun k h1 h2 => by dsimp only; rw [if_neg h1, if_neg h2]⟩
  obtain ⟨mc', hm1, hm2⟩ : ∃ mc' : Nat → Int32, mc' (50 + i) = mc (50 + i) + 1 ∧ ∀ k, k ≠ 50 + i → mc' k = mc k := ⟨fun k => if k = 50 + i then mc (50 + i) + 1 else mc k, if_pos rfl, fun k h => by dsimp only; rw [if_neg h]⟩
  obtain ⟨cp', hp1, hp2⟩ : ∃ cp' : Nat → Nat, cp' (50 + i) = c' ∧ ∀ k, k ≠ 50 + i → cp' k = cp k := ⟨fun k => if k = 50 + i then c' else cp k, if_pos rfl, fun k h => by dsimp only; rw [if_neg h]⟩
  have hgi : gset g 4 (g 4 + 1) 4 = g 4 + 1 := if_pos rfl
  have hgo : ∀ k, k ≠ 4 → gset g 4 (g 4 + 1) k = g k := fun k h => if_neg h
  have hg0 := hgo 0 (by decide)
  have hg1 := hgo 1 (by decide)
  have hg3 := hgo 3 (by decide)
  have hg5 := hgo 5 (by decide)
  have hg7 := hgo 7 (by decide)
  have hfr : ∀ r, (r < 19 ∨ 21 < r) → (amAdd f g (nI i) x2 x3) r = f r := fun r h => amAdd_ne h
  have hfj : ∀ r j, j ≠ g 4 → (amAdd f g (nI i) x2 x3) r j = f r j := fun r j h => amAdd_o hlt h
  have hf19 : (amAdd f g (nI i) x2 x3) 19 (g 4) = nI i := amAdd_19 hlt
  have hf20 : (amAdd f g (nI i) x2 x3) 20 (g 4) = x2 := amAdd_20 hlt
  have hf21 : (amAdd f g (nI i) x2 x3) 21 (g 4) = x3 := amAdd_21 hlt
  generalize hgg : gset g 4 (g 4 + 1) = g' at hgi hgo hg0 hg1 hg3 hg5 hg7 ⊢
  generalize (amAdd f g (nI i) x2 x3) = f' at hfr hfj hf19 hf20 hf21 ⊢
  have hmd : ∀ k, mD cp' g' k → k = 60 + i ∨ k = 100 + g 4 ∨ mD cp g k := fun k hk => by
    unfold mD at hk ⊢
    rcases hk with hk | hk | hk | hk | hk | hk | hk | hk | hk | hk
    · exact Or.inr (Or.inr (Or.inl hk))
    · exact Or.inr (Or.inr (Or.inr (Or.inl ⟨hk.1, by rw [← hp2 5 (by omega)]; exact hk.2⟩)))
    · exact Or.inr (Or.inr (Or.inr (Or.inr (Or.inl ⟨hk.1, by rw [← hp2 6 (by omega)]; exact hk.2⟩))))
    · exact Or.inr (Or.inr (Or.inr (Or.inr (Or.inr (Or.inl ⟨hk.1, by rw [← hp2 7 (by omega)]; exact hk.2⟩)))))
    · rw [hg1] at hk; exact Or.inr (Or.inr (Or.inr (Or.inr (Or.inr (Or.inr (Or.inl hk))))))
    · rw [hg3] at hk; exact Or.inr (Or.inr (Or.inr (Or.inr (Or.inr (Or.inr (Or.inr (Or.inl hk)))))))
    · rw [hg3] at hk; exact Or.inr (Or.inr (Or.inr (Or.inr (Or.inr (Or.inr (Or.inr (Or.inr (Or.inl hk))))))))
    · rw [hg3] at hk; by_cases e9 : k = 60 + i
      · exact Or.inl e9
      · exact Or.inr (Or.inr (Or.inr (Or.inr (Or.inr (Or.inr (Or.inr (Or.inr (Or.inr (Or.inl ⟨hk.1, hk.2.1, hk.2.2.1, by rw [← hp2 (k - 10) (by omega)]; exact hk.2.2.2⟩)))))))))
    · rw [hgi] at hk; by_cases e9 : k = 100 + g 4
      · exact Or.inr (Or.inl e9)
      · exact Or.inr (Or.inr (Or.inr (Or.inr (Or.inr (Or.inr (Or.inr (Or.inr (Or.inr (Or.inr (Or.inl ⟨hk.1, by omega, hk.2.2⟩))))))))))
    · rw [hg5] at hk; exact Or.inr (Or.inr (Or.inr (Or.inr (Or.inr (Or.inr (Or.inr (Or.inr (Or.inr (Or.inr (Or.inr (hk)))))))))))
  have hBs : ∀ k, k < 8 → B' k = B k := fun k h => hBe k (by omega) (by omega)
  have hls : amL f' i (g' 4) = amL f i (g 4) ++ [g 4] := by rw [hgi, amL_s (fun j hj => hfj 19 j (by omega)) i, if_pos hf19]
  have hlo : ∀ j, j < 65536 → j ≠ i → amL f' j (g' 4) = amL f j (g 4) := fun j hj hji => by
    rw [hgi, amL_s (fun q hq => hfj 19 q (by omega)) j, if_neg, List.append_nil]
    rw [hf19]; exact fun z => hji ((nI_eq (by omega) (by omega)).mp z).symm
  have hll : (amL f i (g 4)).length + 1 ≤ c' := hc1
  have heA : eA G B' cp' (50 + i) (60 + i) = a' := by unfold eA; rw [hp1, if_neg (by omega), hBj]
  refine ⟨B', mc', cp', mp_ch (K := fun k => k = 0 ∨ k = 50 + i ∨ k = 60 + i ∨ k = 100 + g 4) hM ?_ ?_ ?_, db_ch (K := fun k => k = 100 + g 4 ∨ (k = 60 + i ∧ H.size ≤ a')) hB ?_ ?_ ?_, ?_, hBs 0 (by decide)⟩
  · refine ⟨⟨fun k => ?_, by rw [hg0]; exact i2, by rw [hg1]; exact i3, by rw [hg3]; exact i4, by rw [hgi]; omega, by rw [hg5]; exact i6⟩, ⟨by rw [hg1, hp2 5 (by omega)]; exact j1, by rw [hg3, hp2 6 (by omega)]; exact j2, by rw [hg5, hp2 7 (by omega)]; exact j3, fun j hj => ?_, fun k => ?_⟩, fun j hj => by rw [hfr 17 (by decide)]; exact k1 j (by rw [← hg3]; exact hj), fun a h => by rw [hfr 15 (by decide)]; exact k2 a h, fun j hj => by rw [hfr 10 (by decide)]; exact k3 j (by rw [← hg1]; exact hj)⟩
    · by_cases e9 : k = 4
      · subst e9; rw [hgi]; omega
      · rw [hgo k e9]; exact i1 k
    · rw [hg3] at hj
      by_cases e9 : j = i
      · rw [e9, hls, hp1, List.length_append]; exact hll
      · rw [hlo j (by omega) e9, hp2 (50 + j) (by omega)]; exact j4 j hj
    · by_cases e9 : k = 50 + i
      · rw [e9, hp1]; exact hc3.1
      · rw [hp2 k e9]; exact j5 k
  · intro k hk _
    rcases hk with rfl | rfl | rfl | rfl
    · rw [hBs 0 (by decide)]
      show va_at G.1 vwCl (B 0, .inr (12, [.int th, .int (nI (g' 0)), .int (nI (g' 7)), .int (nI (g' 4)), .ref (B' 5), .ref (B' 1), .ref (B' 2), .ref (B' 6), .ref (B' 7), .ref (B' 3), .ref (B' 4)])) t2
      rw [hg0, hg7, hgi, hBs 5 (by decide), hBs 1 (by decide), hBs 2 (by decide), hBs 6 (by decide), hBs 7 (by decide), hBs 3 (by decide), hBs 4 (by decide)]; exact h0
    · rw [hBe (50 + i) (by omega) (by omega), mC_pl (by omega), heA, hm1, hls, List.length_append]; exact h21
    · rw [hBj, mC_pe (by omega), hp1, hls, ← amE_1 (B := B) (fun j hj => hBe _ (by omega) (by have := amL_mem hj; omega)) hBo]; exact h22
    · rw [hBo, mC_am (by omega), hf20, hf21]; exact va_at.kept ho (hq3 o hol (Ne.symm (hfo _ hq5)) hoA hoB)
  · intro k hk hnk
    have hn0 : k ≠ 0 := fun z => hnk (Or.inl z)
    have hn1 : k ≠ 50 + i := fun z => hnk (Or.inr (Or.inl z))
    have hn2 : k ≠ 60 + i := fun z => hnk (Or.inr (Or.inr (Or.inl z)))
    have hn3 : k ≠ 100 + g 4 := fun z => hnk (Or.inr (Or.inr (Or.inr z)))
    have hkm : mD cp g k := ((hmd k hk).resolve_left hn2).resolve_left hn3
    refine ⟨hkm, hBe k hn2 hn3, ?_, hq3 (B k) (mp_lt hM hkm) (hne5 k hkm hn1) (hneA k hkm hn2) (fun z => hn0 (hB.2 k 0 hkm hq0 z))⟩
    have hkm2 := hkm
    unfold mD at hkm2
    refine mC_cg (fun z => absurd z hn0) (fun _ => hfr 15 (by decide)) (fun _ => hfr 16 (by decide)) (fun _ => hfr 28 (by decide)) (fun _ => hfr 29 (by decide)) ?_ ?_ ?_ ?_ ?_ ?_ ?_ ?_ ?_ ?_ ?_ ?_
    · exact fun _ => ⟨hm2 5 (by omega), by unfold eA; rw [hp2 5 (by omega), hBe 8 (by omega) (by omega)], hg1⟩
    · exact fun _ => ⟨hm2 6 (by omega), by unfold eA; rw [hp2 6 (by omega), hBe 9 (by omega) (by omega)], hg3⟩
    · exact fun _ => ⟨hm2 7 (by omega), by unfold eA; rw [hp2 7 (by omega), hBe 10 (by omega) (by omega)], hg5⟩
    · exact fun _ => ⟨hp2 5 (by omega), by rw [hg1]; exact lsE_cg fun q hq => hBe _ (by omega) (by omega)⟩
    · exact fun _ => ⟨hp2 6 (by omega), by rw [hg3]; exact lsE_cg fun q hq => hBe _ (by omega) (by omega)⟩
    · exact fun _ => ⟨hp2 7 (by omega), by rw [hg5]; exact lsE_cg fun q hq => hBe _ (by omega) (by omega)⟩
    · exact fun _ _ => ⟨congrFun (hfr 10 (by decide)) _, congrFun (hfr 11 (by decide)) _, congrFun (hfr 12 (by decide)) _, congrFun (hfr 13 (by decide)) _, congrFun (hfr 14 (by decide)) _⟩
    · exact fun z1 z2 => ⟨congrFun (hfr 17 (by decide)) _, congrFun (hfr 18 (by decide)) _, hBe _ (by omega) (by omega)⟩
    · exact fun z1 z2 => ⟨hm2 k hn1, by unfold eA; rw [hp2 k hn1, hBe (k + 10) (by omega) (by omega)], hlo _ (by omega) (by omega)⟩
    · exact fun z1 z2 => ⟨hp2 (k - 10) (by omega), by rw [hlo (k - 60) (by omega) (by omega)]; exact amE_cg fun j hj => hBe _ (by omega) (by have := amL_mem hj; omega)⟩
    · exact fun z1 z2 => ⟨hfj 20 _ (by omega), hfj 21 _ (by omega)⟩
    · exact fun _ => ⟨congrFun (hfr 22 (by decide)) _, congrFun (hfr 23 (by decide)) _, congrFun (hfr 24 (by decide)) _, congrFun (hfr 25 (by decide)) _, congrFun (hfr 26 (by decide)) _⟩
  · intro k hk
    rcases hmd k hk with z | z | z
    · rcases hat with ⟨w1, w2⟩ | w
      · exact Or.inr ⟨by rw [z]; exact hqj w1, by rw [z, hBj]; exact w2⟩
      · exact Or.inl (Or.inr ⟨z, w⟩)
    · exact Or.inl (Or.inl z)
    · by_cases z1 : k = 60 + i
      · rcases hat with ⟨w1, w2⟩ | w
        · exact Or.inr ⟨z, by rw [z1, hBj]; exact w2⟩
        · exact Or.inl (Or.inr ⟨z1, w⟩)
      · by_cases z2 : k = 100 + g 4
        · exact Or.inl (Or.inl z2)
        · exact Or.inr ⟨z, hBe k z1 z2⟩
  · intro k hk
    rcases hk with rfl | ⟨rfl, w⟩
    · rw [hBo]; exact ⟨hDo, hfo⟩
    · rw [hBj]; exact ⟨hDn _ w, fun j hj => Nat.ne_of_lt (Nat.lt_of_lt_of_le (mp_lt hM hj) w)⟩
  · intro j k hj hk z
    rcases hj with rfl | ⟨rfl, w⟩ <;> rcases hk with rfl | ⟨rfl, w2⟩ <;> first | rfl | (exfalso; simp only [hBo, hBj] at z; omega)
  · intro k
    by_cases z : k = 50 + i
    · rw [z, hp1]; exact Or.inr hc2
    · rw [hp2 k z]; exact hcp k
