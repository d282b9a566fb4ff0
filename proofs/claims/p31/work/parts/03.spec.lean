/-! ===== numbers, loops, rows; what a room holds ===== -/
theorem nI_inc (k : Nat) : nI k + Int32.ofInt 1 = nI (k + 1) := by
  have h : Int32.ofInt 1 = 1 := by decide
  rw [h]; exact nI_1 k
theorem nI_dec (k : Nat) : nI (k + 1) + Int32.ofInt (-1) = nI k := by
  have h : Int32.ofInt (-1) = -1 := by decide
  rw [h]; exact pk_m1 k
def cnt (x : Int32) : Nat := x.toNatClampNeg
theorem cnt_lt (x : Int32) : cnt x < 2 ^ 31 := Int32.toNatClampNeg_lt x
theorem cnt_toInt (x : Int32) : (cnt x : Int) = max x.toInt 0 := by
  show ((x.toInt.toNat : Nat) : Int) = _
  omega
theorem cnt_nI {n : Nat} (h : n < 2 ^ 31) : cnt (nI n) = n := nI_clamp h
theorem lp_le_cnt (x : Int32) : x ≤ nI (cnt x) := by
  rw [Int32.le_iff_toInt_le, nI_toInt (cnt_lt x), cnt_toInt]
  omega
theorem lp_nle {x : Int32} {k : Nat} (h : k < cnt x) : ¬ x ≤ nI k := by
  have h2 := cnt_lt x
  rw [Int32.le_iff_toInt_le, nI_toInt (by omega)]
  have h1 := cnt_toInt x
  omega
theorem lp_n399 {d : Nat} (h : d ≤ 399) : ¬ (399 : Int32) < nI d := nI_nlt h (by decide)
def b2i (P : Prop) [Decidable P] : Int32 := if P then 1 else 0
theorem b2i_z {P : Prop} [Decidable P] : b2i P = 0 ↔ ¬ P := by
  unfold b2i; by_cases h : P <;> simp [h]
theorem b2i_nz {P : Prop} [Decidable P] : ¬ b2i P = 0 ↔ P := by
  unfold b2i; by_cases h : P <;> simp [h]
theorem b2i_t {P : Prop} [Decidable P] (h : P) : b2i P = 1 := if_pos h
theorem b2i_f {P : Prop} [Decidable P] (h : ¬ P) : b2i P = 0 := if_neg h
theorem nz_b2i (P : Prop) [Decidable P] : narrow .boolean (.int (b2i P)) = .int (b2i P) := by
  by_cases h : P
  · rw [b2i_t h]; rfl
  · rw [b2i_f h]; rfl
def imax (x y : Int32) : Int32 := if x < y then y else x
def imin (x y : Int32) : Int32 := if y < x then y else x
def iabs (x : Int32) : Int32 := if 0 ≤ x then x else 0 - x
theorem i32_pos_ne {x : Int32} (h : 0 < x) : ¬ x = 0 := fun e => absurd h (by rw [e]; decide)
/-- n steps of F, from s: step j takes what the steps below j gave -/
def fl {σ : Type} : Nat → (Nat → σ → σ) → σ → σ
  | 0, _, s => s
  | n + 1, F, s => F n (fl n F s)
/-- what Row.at answers of a row of n numbers -/
def rowAt (n : Nat) (f : Nat → Int32) (i : Int32) : Int32 := if i < 0 then -1 else if nI n ≤ i then -1 else f i.toNatClampNeg
theorem vp_of {i : Int32} {n : Nat} (h1 : ¬ i < 0) (h2 : ¬ nI n ≤ i) (hn : n < 2 ^ 31) : vp_in i n := by
  rw [vp_in_iff]
  rw [Int32.lt_iff_toInt_lt] at h1
  rw [Int32.le_iff_toInt_le, nI_toInt hn] at h2
  have h3 : (0 : Int32).toInt = 0 := by decide
  omega
theorem rowAt_in {n : Nat} {f : Nat → Int32} {k : Nat} (h : k < n) (hn : n < 2 ^ 31) : rowAt n f (nI k) = f k := by
  unfold rowAt
  rw [if_neg (nI_pos (by omega)), if_neg (nI_ge h hn), nI_clamp (by omega)]
/-- how long the rows are -/
def rl (k : Nat) : Nat := if k < 15 then 12 else if k < 17 then 3 else if k < 19 then 4 else if k < 22 then 20 else if k < 28 then 16 else 4
abbrev rD (k : Nat) : Prop := k < 7 ∨ (10 ≤ k ∧ k < 50)
def rC (G : GT) (A : Nat → Nat) (f : Nat → Nat → Int32) (g : Nat → Nat) (k : Nat) : va_E :=
  if k = 0 then .inr (8, [.ref (A 1), .ref (A 2), .ref (A 3), .ref (A 4), .ref (A 5), .ref (A 6), .int (nI (g 0)), .int (nI (g 7))])
  else if k = 1 then .inr (5, [.ref (A 10), .ref (A 11), .ref (A 12), .ref (A 13), .ref (A 14), .int (nI (g 1))])
  else if k = 2 then .inr (1, [.ref (A 15), .ref (A 16)])
  else if k = 3 then .inr (6, [.ref (A 17), .ref (A 18), .int (nI (g 3))])
  else if k = 4 then .inr (2, [.ref (A 19), .ref (A 20), .ref (A 21), .int (nI (g 4))])
  else if k = 5 then .inr (4, [.ref (A 22), .ref (A 23), .ref (A 24), .ref (A 25), .ref (A 26), .ref (A 27), .int (nI (g 5))])
  else if k = 6 then .inr (3, [.ref (A 28), .ref (A 29)])
  else if k < 30 then .inr (7, [.ref (A (k + 20))])
  else .inl (G.2.1 0, rl (k - 20), .inl (f (k - 20)))
/-- a room in the heap: its cells' addresses A, its rows' numbers f (10 to 14 obstacles, 15 and 16 aids, 17 and 18 procedures, 19 to 21 amendments, 22 to 27 notices, 28 and 29 crews), its counts g (0 now, 1 obstacles, 3 procedures, 4 amendments, 5 notices, 7 told) -/
def RP (G : GT) (A : Nat → Nat) (f : Nat → Nat → Int32) (g : Nat → Nat) (H : Heap) : Prop := (∀ k, g k < 65536) ∧ ∀ k, rD k → va_at G.1 vwCl (A k, rC G A f g k) H
section RPS
variable {G : GT} {A : Nat → Nat} {f : Nat → Nat → Int32} {g : Nat → Nat} {H : Heap}
theorem rP_0 (h : RP G A f g H) : va_at G.1 vwCl (A 0, .inr (8, [.ref (A 1), .ref (A 2), .ref (A 3), .ref (A 4), .ref (A 5), .ref (A 6), .int (nI (g 0)), .int (nI (g 7))])) H := h.2 0 (by decide)
theorem rP_1 (h : RP G A f g H) : va_at G.1 vwCl (A 1, .inr (5, [.ref (A 10), .ref (A 11), .ref (A 12), .ref (A 13), .ref (A 14), .int (nI (g 1))])) H := h.2 1 (by decide)
theorem rP_2 (h : RP G A f g H) : va_at G.1 vwCl (A 2, .inr (1, [.ref (A 15), .ref (A 16)])) H := h.2 2 (by decide)
theorem rP_3 (h : RP G A f g H) : va_at G.1 vwCl (A 3, .inr (6, [.ref (A 17), .ref (A 18), .int (nI (g 3))])) H := h.2 3 (by decide)
theorem rP_4 (h : RP G A f g H) : va_at G.1 vwCl (A 4, .inr (2, [.ref (A 19), .ref (A 20), .ref (A 21), .int (nI (g 4))])) H := h.2 4 (by decide)
theorem rP_5 (h : RP G A f g H) : va_at G.1 vwCl (A 5, .inr (4, [.ref (A 22), .ref (A 23), .ref (A 24), .ref (A 25), .ref (A 26), .ref (A 27), .int (nI (g 5))])) H := h.2 5 (by decide)
theorem rP_6 (h : RP G A f g H) : va_at G.1 vwCl (A 6, .inr (3, [.ref (A 28), .ref (A 29)])) H := h.2 6 (by decide)
theorem rP_10 (h : RP G A f g H) : va_at G.1 vwCl (A 10, .inr (7, [.ref (A 30)])) H := h.2 10 (by decide)
theorem rP_11 (h : RP G A f g H) : va_at G.1 vwCl (A 11, .inr (7, [.ref (A 31)])) H := h.2 11 (by decide)
theorem rP_12 (h : RP G A f g H) : va_at G.1 vwCl (A 12, .inr (7, [.ref (A 32)])) H := h.2 12 (by decide)
theorem rP_13 (h : RP G A f g H) : va_at G.1 vwCl (A 13, .inr (7, [.ref (A 33)])) H := h.2 13 (by decide)
theorem rP_14 (h : RP G A f g H) : va_at G.1 vwCl (A 14, .inr (7, [.ref (A 34)])) H := h.2 14 (by decide)
theorem rP_15 (h : RP G A f g H) : va_at G.1 vwCl (A 15, .inr (7, [.ref (A 35)])) H := h.2 15 (by decide)
theorem rP_16 (h : RP G A f g H) : va_at G.1 vwCl (A 16, .inr (7, [.ref (A 36)])) H := h.2 16 (by decide)
theorem rP_17 (h : RP G A f g H) : va_at G.1 vwCl (A 17, .inr (7, [.ref (A 37)])) H := h.2 17 (by decide)
theorem rP_18 (h : RP G A f g H) : va_at G.1 vwCl (A 18, .inr (7, [.ref (A 38)])) H := h.2 18 (by decide)
theorem rP_19 (h : RP G A f g H) : va_at G.1 vwCl (A 19, .inr (7, [.ref (A 39)])) H := h.2 19 (by decide)
theorem rP_20 (h : RP G A f g H) : va_at G.1 vwCl (A 20, .inr (7, [.ref (A 40)])) H := h.2 20 (by decide)
theorem rP_21 (h : RP G A f g H) : va_at G.1 vwCl (A 21, .inr (7, [.ref (A 41)])) H := h.2 21 (by decide)
theorem rP_22 (h : RP G A f g H) : va_at G.1 vwCl (A 22, .inr (7, [.ref (A 42)])) H := h.2 22 (by decide)
theorem rP_23 (h : RP G A f g H) : va_at G.1 vwCl (A 23, .inr (7, [.ref (A 43)])) H := h.2 23 (by decide)
theorem rP_24 (h : RP G A f g H) : va_at G.1 vwCl (A 24, .inr (7, [.ref (A 44)])) H := h.2 24 (by decide)
theorem rP_25 (h : RP G A f g H) : va_at G.1 vwCl (A 25, .inr (7, [.ref (A 45)])) H := h.2 25 (by decide)
theorem rP_26 (h : RP G A f g H) : va_at G.1 vwCl (A 26, .inr (7, [.ref (A 46)])) H := h.2 26 (by decide)
theorem rP_27 (h : RP G A f g H) : va_at G.1 vwCl (A 27, .inr (7, [.ref (A 47)])) H := h.2 27 (by decide)
theorem rP_28 (h : RP G A f g H) : va_at G.1 vwCl (A 28, .inr (7, [.ref (A 48)])) H := h.2 28 (by decide)
theorem rP_29 (h : RP G A f g H) : va_at G.1 vwCl (A 29, .inr (7, [.ref (A 49)])) H := h.2 29 (by decide)
theorem rP_30 (h : RP G A f g H) : va_at G.1 vwCl (A 30, .inl (G.2.1 0, 12, .inl (f 10))) H := h.2 30 (by decide)
theorem rP_31 (h : RP G A f g H) : va_at G.1 vwCl (A 31, .inl (G.2.1 0, 12, .inl (f 11))) H := h.2 31 (by decide)
theorem rP_32 (h : RP G A f g H) : va_at G.1 vwCl (A 32, .inl (G.2.1 0, 12, .inl (f 12))) H := h.2 32 (by decide)
theorem rP_33 (h : RP G A f g H) : va_at G.1 vwCl (A 33, .inl (G.2.1 0, 12, .inl (f 13))) H := h.2 33 (by decide)
theorem rP_34 (h : RP G A f g H) : va_at G.1 vwCl (A 34, .inl (G.2.1 0, 12, .inl (f 14))) H := h.2 34 (by decide)
theorem rP_35 (h : RP G A f g H) : va_at G.1 vwCl (A 35, .inl (G.2.1 0, 3, .inl (f 15))) H := h.2 35 (by decide)
theorem rP_36 (h : RP G A f g H) : va_at G.1 vwCl (A 36, .inl (G.2.1 0, 3, .inl (f 16))) H := h.2 36 (by decide)
theorem rP_37 (h : RP G A f g H) : va_at G.1 vwCl (A 37, .inl (G.2.1 0, 4, .inl (f 17))) H := h.2 37 (by decide)
theorem rP_38 (h : RP G A f g H) : va_at G.1 vwCl (A 38, .inl (G.2.1 0, 4, .inl (f 18))) H := h.2 38 (by decide)
theorem rP_39 (h : RP G A f g H) : va_at G.1 vwCl (A 39, .inl (G.2.1 0, 20, .inl (f 19))) H := h.2 39 (by decide)
theorem rP_40 (h : RP G A f g H) : va_at G.1 vwCl (A 40, .inl (G.2.1 0, 20, .inl (f 20))) H := h.2 40 (by decide)
theorem rP_41 (h : RP G A f g H) : va_at G.1 vwCl (A 41, .inl (G.2.1 0, 20, .inl (f 21))) H := h.2 41 (by decide)
theorem rP_42 (h : RP G A f g H) : va_at G.1 vwCl (A 42, .inl (G.2.1 0, 16, .inl (f 22))) H := h.2 42 (by decide)
theorem rP_43 (h : RP G A f g H) : va_at G.1 vwCl (A 43, .inl (G.2.1 0, 16, .inl (f 23))) H := h.2 43 (by decide)
theorem rP_44 (h : RP G A f g H) : va_at G.1 vwCl (A 44, .inl (G.2.1 0, 16, .inl (f 24))) H := h.2 44 (by decide)
theorem rP_45 (h : RP G A f g H) : va_at G.1 vwCl (A 45, .inl (G.2.1 0, 16, .inl (f 25))) H := h.2 45 (by decide)
theorem rP_46 (h : RP G A f g H) : va_at G.1 vwCl (A 46, .inl (G.2.1 0, 16, .inl (f 26))) H := h.2 46 (by decide)
theorem rP_47 (h : RP G A f g H) : va_at G.1 vwCl (A 47, .inl (G.2.1 0, 16, .inl (f 27))) H := h.2 47 (by decide)
theorem rP_48 (h : RP G A f g H) : va_at G.1 vwCl (A 48, .inl (G.2.1 0, 4, .inl (f 28))) H := h.2 48 (by decide)
theorem rP_49 (h : RP G A f g H) : va_at G.1 vwCl (A 49, .inl (G.2.1 0, 4, .inl (f 29))) H := h.2 49 (by decide)
/-- a counter that goes down: n steps left -/
abbrev pd (n : Nat) : Int32 := nI n - 1
theorem pd_s (n : Nat) : pd (n + 1) = nI n := nI_pred n
theorem pd_i (n : Nat) : nI n + Int32.ofInt (-1) = pd n := by
  have h : Int32.ofInt (-1) = -1 := by decide
  rw [h]; exact (Int32.sub_eq_add_neg (nI n) 1).symm
theorem pd_nn {n : Nat} (h : n < 2 ^ 31) : ¬ nI n < 0 := nI_pos h
/-! what the class's methods answer, in its own words -/
def isTh (f : Nat → Nat → Int32) (i d : Int32) : Bool := decide (¬ d < rowAt 12 (f 13) i ∧ (rowAt 12 (f 14) i = -1 ∨ ¬ rowAt 12 (f 14) i < d))
def isGd (f : Nat → Nat → Int32) (a d : Int32) : Bool := decide (¬ rowAt 3 (f 16) a < d)
def goOn (f : Nat → Nat → Int32) (d : Int32) : Int32 := fl 3 (fun j s => if isGd f (nI j) d then s ||| (1 <<< (nI j &&& 31)) else s) 0
def hOn (f : Nat → Nat → Int32) (p d : Int32) : Nat → Int32
  | 0 => -1
  | n + 1 => if rowAt 20 (f 19) (nI n) = p ∧ ¬ d < rowAt 20 (f 20) (nI n) then rowAt 20 (f 21) (nI n) else hOn f p d n
def isAc (f : Nat → Nat → Int32) (i d kn : Int32) : Bool := decide ((¬ rowAt 16 (f 22) i = 3 ∧ ¬ d < rowAt 16 (f 25) i ∧ ¬ rowAt 16 (f 26) i < d) ∧ (rowAt 16 (f 27) i = -1 ∨ ¬ rowAt 16 (f 27) i < kn ∨ d < rowAt 16 (f 25) (rowAt 16 (f 27) i)))
def acOn (f : Nat → Nat → Int32) (N : Nat) (d : Int32) : Int32 := fl N (fun j s => if isAc f (nI j) d (nI N) then s + 1 else s) 0
def apL (f : Nat → Nat → Int32) (ch p a d kn : Int32) : Nat → Nat → Int32 → Int32
  | 0, _, r => ch + r
  | n + 1, k, r => if ¬ isAc f (nI k) d kn then apL f ch p a d kn n (k + 1) r
    else if (rowAt 16 (f 22) (nI k) = 1 ∧ rowAt 16 (f 23) (nI k) = a) ∨ (rowAt 16 (f 22) (nI k) = 2 ∧ rowAt 16 (f 23) (nI k) = p) then -1
    else if rowAt 16 (f 22) (nI k) = 0 ∧ rowAt 16 (f 23) (nI k) = p then apL f ch p a d kn n (k + 1) (imax r (rowAt 16 (f 24) (nI k)))
    else apL f ch p a d kn n (k + 1) r
def apTo (f : Nat → Nat → Int32) (ch p a d kn : Int32) : Int32 := if ch = -1 then -1 else apL f ch p a d kn (cnt kn) 0 0
def maOf (k : Int32) : Int32 := if k = 0 then 30 else if k = 1 then 75 else 90
def baOf (k : Int32) : Int32 := if k = 0 then 200 else if k = 1 then 250 else 300
def rUp (h : Int32) : Int32 := (h + 9) / 10 * 10
def fCat (h c : Int32) : Int32 := if h = -1 then -1 else h + 10 * c
def need (x y t k s : Int32) : Int32 :=
  if x < 0 then t + 30 + 25 * x
  else if k = 0 ∧ ¬ x * s < t then 0
  else if ¬ 1 + x / 10 < iabs y then t + maOf k
  else if ¬ 2 * (1 + x / 10) < iabs y ∧ 0 < 1 + x / 10 then t + maOf k * (2 * (1 + x / 10) - iabs y) / (1 + x / 10)
  else 0
abbrev aidOf (f : Nat → Nat → Int32) (p : Int32) : Int32 := rowAt 4 (f 17) p
abbrev kiOf (f : Nat → Nat → Int32) (p : Int32) : Int32 := rowAt 3 (f 15) (aidOf f p)
abbrev ndOf (f : Nat → Nat → Int32) (p i : Int32) : Int32 := need (rowAt 12 (f 10) i) (rowAt 12 (f 11) i) (rowAt 12 (f 12) i) (kiOf f p) (rowAt 4 (f 18) p)
def lH (f : Nat → Nat → Int32) (g : Nat → Nat) (p d w : Int32) : Int32 := rUp (fl (g 1) (fun j h => if ¬ nI j = w ∧ isTh f (nI j) d then imax h (ndOf f p (nI j)) else h) (baOf (kiOf f p)))
def hIF (f : Nat → Nat → Int32) (g : Nat → Nat) (p d : Int32) : Int32 := if ¬ isGd f (aidOf f p) d then -1 else apTo f (hOn f p d (g 4)) p (aidOf f p) d (nI (g 5))
def hBl (f : Nat → Nat → Int32) (g : Nat → Nat) (c p d : Int32) : Int32 := if rowAt 4 (f 28) c = -1 then -1 else apTo f (hOn f p (rowAt 4 (f 28) c) (g 4)) p (aidOf f p) d (rowAt 4 (f 29) c)
def isUn (f : Nat → Nat → Int32) (g : Nat → Nat) (p d : Int32) : Bool := decide (¬ hIF f g p d = -1 ∧ hIF f g p d < lH f g p d (-1))
def uSet (f : Nat → Nat → Int32) (g : Nat → Nat) : Int32 := fl (g 3) (fun j s => if isUn f g (nI j) (nI (g 0)) then s ||| (1 <<< (nI j &&& 31)) else s) 0
def hTK (f : Nat → Nat → Int32) (g : Nat → Nat) (p : Int32) (a b : Nat) : Int32 := fl (b + 1 - max a (g 0)) (fun j kp => if ¬ hIF f g p (nI (max a (g 0) + j)) = -1 ∧ hIF f g p (nI (max a (g 0) + j)) < kp ∧ ¬ hIF f g p (nI (max a (g 0) + j)) < lH f g p (nI (max a (g 0) + j)) (-1) then hIF f g p (nI (max a (g 0) + j)) else kp) 1000000
def nWB (f : Nat → Nat → Int32) (p x y t : Int32) : Int32 := rUp (need x y t (kiOf f p) (rowAt 4 (f 18) p))
end RPS
