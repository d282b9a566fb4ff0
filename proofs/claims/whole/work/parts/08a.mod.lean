/-! ===== the reference's heap, and rows for it ===== -/
section QM
variable {p : Program} {l : Launch} {e : Env} {R : Room} {s : State} {m : MethodId} {args : Array Value} {below : List Frame} {meth : Method} {c : Code} {H : Heap} {locs : List Loc} {cells slots : Nat} {Q : State → Prop}
variable {Ts ws ws' : List Cond} {cc bytes : ByteArray} {nL maxL index n : Nat} {own C : String} {y : MethodName} {ret : Option FieldType} {rm : Room} {b a pc : Nat} {As rest st0 : List Value} {ls : Array Slot} {G : GT} {v : Option Value} {av : List Value}
theorem rd_castS {ci : Nat} {q : vw_C} {fs : List Value} {nm : String} (S : CallFix p m c cc nL s args Ts own) (hG : GV G s) (hat : va_at G.1 vwCl (a, .inr (ci, fs)) H) (hc : vwCl[ci]? = some q) (hnm : q.1 = nm) (hlink : (Cond.classLink own index nm).before args s = true) (hdg : decode cc pc = .ok (.checkcast index, 3))
    (kk : W p l e R s m args below meth c H locs cells slots Q (F0 m (pc + 3) ls (.ref a :: rest))) : W p l e R s m args below meth c H locs cells slots Q (F0 m pc ls (.ref a :: rest)) := by
  subst hnm
  exact va_castS S.1 S.2.1 S.2.2.2.1 hlink (hG.1.1 ci q hc).2 (rd_rcv hG hat hc) hdg kk
theorem rd_castI {n : Nat} {r : Nat → Int32} (S : CallFix p m c cc nL s args Ts own) (hG : GV G s) (hat : va_at G.1 vwCl (a, .inl (G.2.1 0, n, .inl r)) H) (hlink : (Cond.classLink own index "[I").before args s = true) (hdg : decode cc pc = .ok (.checkcast index, 3))
    (kk : W p l e R s m args below meth c H locs cells slots Q (F0 m (pc + 3) ls (.ref a :: rest))) : W p l e R s m args below meth c H locs cells slots Q (F0 m pc ls (.ref a :: rest)) :=
  va_castA S.1 S.2.1 S.2.2.2.1 hlink (q_P1 hat) 0 rfl (hG.1.2 0 _ rfl).2 hdg kk
theorem rd_aldq {n : Nat} {r : Nat → Option Nat} {i : Int32} {x : Nat} (S : CallFix p m c cc nL s args Ts own) (hG : GV G s) (hat : va_at G.1 vwCl (a, .inl (G.2.1 1, n, .inr (.inr (.inr (.inr r))))) H) (hin : vp_in i n) (hx : r i.toNatClampNeg = some x) (hdg : decode cc pc = .ok (.aaload, 1))
    (kk : W p l e R s m args below meth c H locs cells slots Q (F0 m (pc + 1) ls (.ref x :: rest))) : W p l e R s m args below meth c H locs cells slots Q (F0 m pc ls (.int i :: .ref a :: rest)) := by
  refine va_aldq S.1 S.2.1 hG.1 (q_P1 hat) 0 1 rfl rfl hin hdg ?_
  rw [hx]
  exact kk
theorem rd_gets {C n d : String} {x : Value} (S : CallFix p m c cc nL s args Ts own) (hH : s.heap = H) (hZ : va_Z C n d x (fun q => G.2.2.1 ≤ q) s H) (hlink : (Cond.fieldLink own index C n d).before args s = true) (hdg : decode cc pc = .ok (.getstatic index, 3))
    (kk : W p l e R s m args below meth c H [] cells slots Q (F0 m (pc + 3) ls (x :: rest))) : W p l e R s m args below meth c H [] cells slots Q (F0 m pc ls rest) := by
  subst hH
  exact va_gets S.1 S.2.1 hZ va_S.rf S.2.2.2.1 hlink (fun _ h => h) hdg kk
end QM
/-- the amendments of a procedure, by their numbers -/
def amL (f : Nat → Nat → Int32) (i : Nat) (n : Nat) : List Nat := (List.range n).filter (fun j => f 19 j = nI i)
def lsE (B : Nat → Nat) (o n : Nat) : Nat → Option Nat := fun i => if i < n then some (B (o + i)) else none
def amE (B : Nat → Nat) (L : List Nat) : Nat → Option Nat := fun q => (L[q]?).map (fun j => B (100 + j))
def eA (G : GT) (B : Nat → Nat) (cp : Nat → Nat) (k j : Nat) : Nat := if cp k = 0 then G.2.2.2 0 else B j
abbrev gRef (n : Nat) (r : Nat → Option Nat) : vp_A := (n, .inr (.inr (.inr (.inr r))))
def mD (cp g : Nat → Nat) (k : Nat) : Prop := k < 8 ∨ (k = 8 ∧ cp 5 ≠ 0) ∨ (k = 9 ∧ cp 6 ≠ 0) ∨ (k = 10 ∧ cp 7 ≠ 0) ∨ (20 ≤ k ∧ k < 20 + g 1 ∧ k < 40) ∨ (40 ≤ k ∧ k < 40 + g 3 ∧ k < 50) ∨ (50 ≤ k ∧ k < 50 + g 3 ∧ k < 60) ∨ (60 ≤ k ∧ k < 60 + g 3 ∧ k < 70 ∧ cp (k - 10) ≠ 0) ∨ (100 ≤ k ∧ k < 100 + g 4 ∧ k < 200) ∨ (200 ≤ k ∧ k < 200 + g 5)
def mC (G : GT) (B : Nat → Nat) (th : Int32) (mc : Nat → Int32) (cp : Nat → Nat) (f : Nat → Nat → Int32) (g : Nat → Nat) (k : Nat) : va_E :=
  if k = 0 then .inr (12, [.int th, .int (nI (g 0)), .int (nI (g 7)), .int (nI (g 4)), .ref (B 5), .ref (B 1), .ref (B 2), .ref (B 6), .ref (B 7), .ref (B 3), .ref (B 4)])
  else if k = 1 then .inl (G.2.1 0, 3, .inl (f 15))
  else if k = 2 then .inl (G.2.1 0, 3, .inl (f 16))
  else if k = 3 then .inl (G.2.1 0, 4, .inl (f 28))
  else if k = 4 then .inl (G.2.1 0, 4, .inl (f 29))
  else if k = 5 then .inr (0, [.int (mc 5), .ref (eA G B cp 5 8), .int (nI (g 1))])
  else if k = 6 then .inr (0, [.int (mc 6), .ref (eA G B cp 6 9), .int (nI (g 3))])
  else if k = 7 then .inr (0, [.int (mc 7), .ref (eA G B cp 7 10), .int (nI (g 5))])
  else if k = 8 then .inl (G.2.1 1, gRef (cp 5) (lsE B 20 (g 1)))
  else if k = 9 then .inl (G.2.1 1, gRef (cp 6) (lsE B 40 (g 3)))
  else if k = 10 then .inl (G.2.1 1, gRef (cp 7) (lsE B 200 (g 5)))
  else if k < 40 then .inr (10, [.int (f 10 (k - 20)), .int (f 11 (k - 20)), .int (f 12 (k - 20)), .int (f 13 (k - 20)), .int (f 14 (k - 20))])
  else if k < 50 then .inr (11, [.int (f 17 (k - 40)), .int (f 18 (k - 40)), .ref (B (k + 10))])
  else if k < 60 then .inr (0, [.int (mc k), .ref (eA G B cp k (k + 10)), .int (nI (amL f (k - 50) (g 4)).length)])
  else if k < 70 then .inl (G.2.1 1, gRef (cp (k - 10)) (amE B (amL f (k - 60) (g 4))))
  else if k < 200 then .inl (G.2.1 0, 2, .inl (fun q => if q = 0 then f 20 (k - 100) else f 21 (k - 100)))
  else .inr (9, [.int (f 22 (k - 200)), .int (f 23 (k - 200)), .int (f 24 (k - 200)), .int (f 25 (k - 200)), .int (f 26 (k - 200))])
/-- what keeps the reference's steps in their rows -/
def MI (cp : Nat → Nat) (f : Nat → Nat → Int32) (g : Nat → Nat) : Prop :=
  ((∀ k, g k < 65536) ∧ g 0 ≤ 399 ∧ g 1 ≤ 12 ∧ g 3 ≤ 4 ∧ g 4 ≤ 20 ∧ g 5 ≤ 16) ∧ (g 1 ≤ cp 5 ∧ g 3 ≤ cp 6 ∧ g 5 ≤ cp 7 ∧ (∀ i, i < g 3 → (amL f i (g 4)).length ≤ cp (50 + i)) ∧ ∀ k, cp k < 65536) ∧
  ((∀ i, i < g 3 → ∃ a, a < 3 ∧ f 17 i = nI a) ∧ (∀ a, a < 3 → ∃ k, k < 3 ∧ f 15 a = nI k) ∧ (∀ i, i < g 1 → -20 ≤ (f 10 i).toInt ∧ (f 10 i).toInt ≤ 60))
/-- the reference in the heap -/
def MP (G : GT) (B : Nat → Nat) (th : Int32) (mc : Nat → Int32) (cp : Nat → Nat) (f : Nat → Nat → Int32) (g : Nat → Nat) (H : Heap) : Prop := MI cp f g ∧ ∀ k, mD cp g k → va_at G.1 vwCl (B k, mC G B th mc cp f g k) H
section MPS
variable {G : GT} {B : Nat → Nat} {th : Int32} {mc : Nat → Int32} {cp : Nat → Nat} {f : Nat → Nat → Int32} {g : Nat → Nat} {H : Heap}
theorem mP_0 (h : MP G B th mc cp f g H) : va_at G.1 vwCl (B 0, .inr (12, [.int th, .int (nI (g 0)), .int (nI (g 7)), .int (nI (g 4)), .ref (B 5), .ref (B 1), .ref (B 2), .ref (B 6), .ref (B 7), .ref (B 3), .ref (B 4)])) H := h.2 0 (Or.inl (by decide))
theorem mP_1 (h : MP G B th mc cp f g H) : va_at G.1 vwCl (B 1, .inl (G.2.1 0, 3, .inl (f 15))) H := h.2 1 (Or.inl (by decide))
theorem mP_2 (h : MP G B th mc cp f g H) : va_at G.1 vwCl (B 2, .inl (G.2.1 0, 3, .inl (f 16))) H := h.2 2 (Or.inl (by decide))
theorem mP_3 (h : MP G B th mc cp f g H) : va_at G.1 vwCl (B 3, .inl (G.2.1 0, 4, .inl (f 28))) H := h.2 3 (Or.inl (by decide))
theorem mP_4 (h : MP G B th mc cp f g H) : va_at G.1 vwCl (B 4, .inl (G.2.1 0, 4, .inl (f 29))) H := h.2 4 (Or.inl (by decide))
theorem mP_5 (h : MP G B th mc cp f g H) : va_at G.1 vwCl (B 5, .inr (0, [.int (mc 5), .ref (eA G B cp 5 8), .int (nI (g 1))])) H := h.2 5 (Or.inl (by decide))
theorem mP_6 (h : MP G B th mc cp f g H) : va_at G.1 vwCl (B 6, .inr (0, [.int (mc 6), .ref (eA G B cp 6 9), .int (nI (g 3))])) H := h.2 6 (Or.inl (by decide))
theorem mP_7 (h : MP G B th mc cp f g H) : va_at G.1 vwCl (B 7, .inr (0, [.int (mc 7), .ref (eA G B cp 7 10), .int (nI (g 5))])) H := h.2 7 (Or.inl (by decide))
theorem mP_e5 (h : MP G B th mc cp f g H) (hc : 0 < g 1) : va_at G.1 vwCl (eA G B cp 5 8, .inl (G.2.1 1, gRef (cp 5) (lsE B 20 (g 1)))) H := by
  have h1 := h.1.2.1.1
  rw [eA, if_neg (by omega)]
  exact h.2 8 (Or.inr (Or.inl ⟨rfl, by omega⟩))
theorem mP_e6 (h : MP G B th mc cp f g H) (hc : 0 < g 3) : va_at G.1 vwCl (eA G B cp 6 9, .inl (G.2.1 1, gRef (cp 6) (lsE B 40 (g 3)))) H := by
  have h1 := h.1.2.1.2.1
  rw [eA, if_neg (by omega)]
  exact h.2 9 (Or.inr (Or.inr (Or.inl ⟨rfl, by omega⟩)))
theorem mP_e7 (h : MP G B th mc cp f g H) (hc : 0 < g 5) : va_at G.1 vwCl (eA G B cp 7 10, .inl (G.2.1 1, gRef (cp 7) (lsE B 200 (g 5)))) H := by
  have h1 := h.1.2.1.2.2.1
  rw [eA, if_neg (by omega)]
  exact h.2 10 (Or.inr (Or.inr (Or.inr (Or.inl ⟨rfl, by omega⟩))))
theorem mP_ob (h : MP G B th mc cp f g H) {i : Nat} (hi : i < g 1) : va_at G.1 vwCl (B (20 + i), .inr (10, [.int (f 10 i), .int (f 11 i), .int (f 12 i), .int (f 13 i), .int (f 14 i)])) H := by
  have h1 := h.1.1.2.2.1
  have h2 := h.2 (20 + i) (Or.inr (Or.inr (Or.inr (Or.inr (Or.inl ⟨by omega, by omega, by omega⟩)))))
  unfold mC at h2
  rw [if_neg (by omega), if_neg (by omega), if_neg (by omega), if_neg (by omega), if_neg (by omega), if_neg (by omega), if_neg (by omega), if_neg (by omega), if_neg (by omega), if_neg (by omega), if_neg (by omega), if_pos (by omega), Nat.add_sub_cancel_left] at h2
  exact h2
theorem mP_pr (h : MP G B th mc cp f g H) {i : Nat} (hi : i < g 3) : va_at G.1 vwCl (B (40 + i), .inr (11, [.int (f 17 i), .int (f 18 i), .ref (B (50 + i))])) H := by
  have h1 := h.1.1.2.2.2.1
  have h2 := h.2 (40 + i) (Or.inr (Or.inr (Or.inr (Or.inr (Or.inr (Or.inl ⟨by omega, by omega, by omega⟩))))))
  unfold mC at h2
  rw [if_neg (by omega), if_neg (by omega), if_neg (by omega), if_neg (by omega), if_neg (by omega), if_neg (by omega), if_neg (by omega), if_neg (by omega), if_neg (by omega), if_neg (by omega), if_neg (by omega), if_neg (by omega), if_pos (by omega), Nat.add_sub_cancel_left, show 40 + i + 10 = 50 + i by omega] at h2
  exact h2
theorem mP_pl (h : MP G B th mc cp f g H) {i : Nat} (hi : i < g 3) : va_at G.1 vwCl (B (50 + i), .inr (0, [.int (mc (50 + i)), .ref (eA G B cp (50 + i) (60 + i)), .int (nI (amL f i (g 4)).length)])) H := by
  have h1 := h.1.1.2.2.2.1
  have h2 := h.2 (50 + i) (Or.inr (Or.inr (Or.inr (Or.inr (Or.inr (Or.inr (Or.inl ⟨by omega, by omega, by omega⟩)))))))
  unfold mC at h2
  rw [if_neg (by omega), if_neg (by omega), if_neg (by omega), if_neg (by omega), if_neg (by omega), if_neg (by omega), if_neg (by omega), if_neg (by omega), if_neg (by omega), if_neg (by omega), if_neg (by omega), if_neg (by omega), if_neg (by omega), if_pos (by omega), Nat.add_sub_cancel_left, show 50 + i + 10 = 60 + i by omega] at h2
  exact h2
theorem mP_pe (h : MP G B th mc cp f g H) {i : Nat} (hi : i < g 3) (hc : 0 < (amL f i (g 4)).length) : va_at G.1 vwCl (eA G B cp (50 + i) (60 + i), .inl (G.2.1 1, gRef (cp (50 + i)) (amE B (amL f i (g 4))))) H := by
  have h1 := h.1.1.2.2.2.1
  have h3 := h.1.2.1.2.2.2.1 i hi
  have h2 := h.2 (60 + i) (Or.inr (Or.inr (Or.inr (Or.inr (Or.inr (Or.inr (Or.inr (Or.inl ⟨by omega, by omega, by omega, by rw [show 60 + i - 10 = 50 + i by omega]; omega⟩))))))))
  unfold mC at h2
  rw [if_neg (by omega), if_neg (by omega), if_neg (by omega), if_neg (by omega), if_neg (by omega), if_neg (by omega), if_neg (by omega), if_neg (by omega), if_neg (by omega), if_neg (by omega), if_neg (by omega), if_neg (by omega), if_neg (by omega), if_neg (by omega), if_pos (by omega), Nat.add_sub_cancel_left, show 60 + i - 10 = 50 + i by omega] at h2
  rw [eA, if_neg (by omega)]
  exact h2
theorem mP_am (h : MP G B th mc cp f g H) {j : Nat} (hj : j < g 4) : va_at G.1 vwCl (B (100 + j), .inl (G.2.1 0, 2, .inl (fun q => if q = 0 then f 20 j else f 21 j))) H := by
  have h1 := h.1.1.2.2.2.2.1
  have h2 := h.2 (100 + j) (Or.inr (Or.inr (Or.inr (Or.inr (Or.inr (Or.inr (Or.inr (Or.inr (Or.inl ⟨by omega, by omega, by omega⟩)))))))))
  unfold mC at h2
  rw [if_neg (by omega), if_neg (by omega), if_neg (by omega), if_neg (by omega), if_neg (by omega), if_neg (by omega), if_neg (by omega), if_neg (by omega), if_neg (by omega), if_neg (by omega), if_neg (by omega), if_neg (by omega), if_neg (by omega), if_neg (by omega), if_neg (by omega), if_pos (by omega), Nat.add_sub_cancel_left] at h2
  exact h2
theorem mP_no (h : MP G B th mc cp f g H) {i : Nat} (hi : i < g 5) : va_at G.1 vwCl (B (200 + i), .inr (9, [.int (f 22 i), .int (f 23 i), .int (f 24 i), .int (f 25 i), .int (f 26 i)])) H := by
  have h2 := h.2 (200 + i) (Or.inr (Or.inr (Or.inr (Or.inr (Or.inr (Or.inr (Or.inr (Or.inr (Or.inr ⟨by omega, by omega⟩)))))))))
  unfold mC at h2
  rw [if_neg (by omega), if_neg (by omega), if_neg (by omega), if_neg (by omega), if_neg (by omega), if_neg (by omega), if_neg (by omega), if_neg (by omega), if_neg (by omega), if_neg (by omega), if_neg (by omega), if_neg (by omega), if_neg (by omega), if_neg (by omega), if_neg (by omega), if_neg (by omega), Nat.add_sub_cancel_left] at h2
  exact h2
theorem lsE_at {o n i : Nat} (h : i < n) : lsE B o n i = some (B (o + i)) := if_pos h
theorem amE_at {L : List Nat} {q : Nat} (h : q < L.length) : amE B L q = some (B (100 + L[q])) := by
  unfold amE; rw [List.getElem?_eq_getElem h]; rfl
theorem amL_lt {i n q : Nat} (h : q < (amL f i n).length) : (amL f i n)[q] < n := by
  have h2 := List.getElem_mem h
  exact List.mem_range.mp (List.mem_filter.mp h2).1
end MPS
