/-! .. and the other asking ones -/
def mFu (g : Nat → Nat) : Bool := decide (nI (g 5) = 16)
def mNx (v : Int32) (n : Nat) : Bool := decide (¬ inB v 0 (nI n - 1) = true)
def mNr (v lo hi : Int32) : Bool := decide (¬ inB v lo hi = true)
def mNP (x y a b : Int32) : Bool := decide (¬ inB x (-20) 60 = true ∨ ¬ inB y (-9) 9 = true ∨ mNr a 0 399 = true ∨ (¬ b = -1 ∧ ¬ inB b a 399 = true))
def mNT (g : Nat → Nat) (a b : Int32) : Bool := decide (¬ inB a (nI (g 0)) 399 = true ∨ ¬ inB b a 399 = true)
def mOb (f : Nat → Nat → Int32) (i : Nat) (w : Int32) : Int32 := if w = 0 then f 10 i else if w = 1 then f 11 i else if w = 2 then f 12 i else if w = 3 then f 13 i else f 14 i
def mOn (f : Nat → Nat → Int32) (g : Nat → Nat) (i : Nat) (w : Int32) : Int32 := if w = 0 then f 22 i else if w = 1 then f 23 i else if w = 2 then f 24 i else if w = 3 then f 25 i else if w = 4 then f 26 i else if f 22 i = 3 ∨ mCt f i (nI (g 0)) (g 5) = true then 1 else 0
def mdF (f : Nat → Nat → Int32) (g : Nat → Nat) (i : Nat) (d : Int32) (j : Nat) (st : Int32 × Int32) : Int32 × Int32 := if mLH f g i d (nI j) < st.1 then (mLH f g i d (nI j), nI j) else st
def mDc (f : Nat → Nat → Int32) (g : Nat → Nat) (i : Nat) (d : Int32) : Int32 := (fl (g 1) (mdF f g i d) (mLH f g i d (-1), -1)).2
def mMi (f : Nat → Nat → Int32) (g : Nat → Nat) (c : Nat) : Int32 := fl (g 3) (fun j s => if ¬ mBl f g c j (nI (g 0)) = -1 ∧ (mIF f g j (nI (g 0)) = -1 ∨ mBl f g c j (nI (g 0)) < mIF f g j (nI (g 0))) then s ||| (1 <<< (nI j &&& 31)) else s) 0
def mUL (f : Nat → Nat → Int32) (g : Nat → Nat) (i : Nat) : Nat → Nat → Int32
  | 0, _ => -1
  | n + 1, k => if mUn f g i (nI (g 0 + k)) = true then nI (g 0 + k) else mUL f g i n (k + 1)
def mRL (f : Nat → Nat → Int32) (g : Nat → Nat) (i : Nat) : Int32 := fl (400 - g 0) (fun j by_ => if mUn f g i (nI (g 0 + j)) = true then imax by_ (mLH f g i (nI (g 0 + j)) (-1) - mCh f g i (nI (g 0 + j))) else by_) 0
def mRF (f : Nat → Nat → Int32) (g : Nat → Nat) (i : Nat) : Int32 := if 500 < mRL f g i then -1 else mRL f g i
theorem nmX11_demandedNow_ : nmV yX11_demandedNow_ RX11 2 := by decide +kernel

set_option maxHeartbeats 1000000 in
set_option maxRecDepth 100000 in
theorem c_X11_demandedNow_ (l : Launch) (G : GT) (B : Nat → Nat) (th : Int32) (mc : Nat → Int32) (cp : Nat → Nat) (f : Nat → Nat → Int32) (g : Nat → Nat) (H : Heap) (hM : MP G B th mc cp f g H) (i : Nat) (d : Int32) (hi : i < g 3) : RdV l G H yX11_demandedNow_ wsX11_demandedNow_ { frames := 5, cells := 0, slots := 0, locals := 120 } [.ref (B 0), .int (nI i), .int d] (some (.int (mLH f g i d (-1)))) := by
  refine rd_of (cc := cX11_demandedNow_) (maxL := 3) (ret := (some .int)) (by decide) rfl (Nat.le_of_ble_eq_true rfl) ?_
  intro pZ eZ sZ mZ bZ meZ cZ ls S hr hlk hl hHs hG
  have S : CallFix pZ mZ cZ cX11_demandedNow_ 3 sZ _ wsX11_demandedNow_ RX11 := S
  have hx := S.1
  have hb := S.2.1
  have hown := S.2.2.2.1
  have hts := S.2.2.2.2
  have hl : lv_has ls 3 [(0, .ref (B 0)), (1, .int (nI i)), (2, .int d)] := hl
  have hI := hM.1
  have hgb := hI.1.1
  have hg0 := hI.1.2.1
  have hg1 := hI.1.2.2.1
  have hg3 := hI.1.2.2.2.1
  have hg4 := hI.1.2.2.2.2.1
  have hg5 := hI.1.2.2.2.2.2
  refine lv_aload_n hx hb dX11_demandedNow__0 rfl (lv_at hl 0 rfl) ?_
  refine lv_iload_n hx hb dX11_demandedNow__1 rfl (lv_at hl 1 rfl) ?_
  refine lv_iload_n hx hb dX11_demandedNow__2 rfl (lv_at hl 2 rfl) ?_
  refine lv_iconst (v := (-1)) hx hb dX11_demandedNow__3 (by decide) ?_
  refine lv_null hx hb dX11_demandedNow__4 ?_
  refine rd_V (As := [.int (nI i), .int d, .int (-1), .null]) (rest := []) (v := some (.int (mLH f g i d (-1)))) S hG (c_X11_demandedNow_n l G B th mc cp f g H hM i d (-1) (by omega)) gX11_demandedNow__X11_demandedNow rfl ⟨rfl, rfl⟩ nmX11_demandedNow ⟨Nat.le_of_ble_eq_true rfl, Nat.le_of_ble_eq_true rfl⟩ (rd_rcv hG.1 (mP_0 hM) rfl) rfl hl.1 rfl (Nat.le_of_ble_eq_true rfl) ⟨Nat.zero_le _, Nat.zero_le _⟩ dX11_demandedNow__5 ?_
  refine W.eq (g2 := F0 mZ 8 ls [.int (mLH f g i d (-1))]) rfl ?_
  exact rd_iret S hr hlk dX11_demandedNow__8 (congrArg (fun z => some (Value.int z)) (by first | rfl | (simp only [true_and, ne_eq, not_true_eq_false, not_false_eq_true, and_true, true_and, and_false, false_and, or_true, true_or, or_false, false_or, and_self, or_self, decide_eq_true_eq, ↓reduceIte]; done) | (simp [true_and]; done) | (simp only [true_and, ne_eq, not_true_eq_false, not_false_eq_true, and_true, true_and, and_false, false_and, or_true, true_or, or_false, false_or, and_self, or_self, decide_eq_true_eq, ↓reduceIte])))

theorem nmX11_isUnsafe : nmV yX11_isUnsafe RX11 2 := by decide +kernel

set_option maxHeartbeats 1000000 in
set_option maxRecDepth 100000 in
theorem c_X11_isUnsafe (l : Launch) (G : GT) (B : Nat → Nat) (th : Int32) (mc : Nat → Int32) (cp : Nat → Nat) (f : Nat → Nat → Int32) (g : Nat → Nat) (H : Heap) (hM : MP G B th mc cp f g H) (i : Nat) (d : Int32) (hi : i < g 3) : RdV l G H yX11_isUnsafe wsX11_isUnsafe { frames := 6, cells := 0, slots := 0, locals := 142 } [.ref (B 0), .int (nI i), .int d] (some (.int (b2i (mUn f g i d = true)))) := by
  refine rd_of (cc := cX11_isUnsafe) (maxL := 4) (ret := (some .boolean)) (by decide) rfl (Nat.le_of_ble_eq_true rfl) ?_
  intro pZ eZ sZ mZ bZ meZ cZ ls S hr hlk hl hHs hG
  have S : CallFix pZ mZ cZ cX11_isUnsafe 4 sZ _ wsX11_isUnsafe RX11 := S
  have hx := S.1
  have hb := S.2.1
  have hown := S.2.2.2.1
  have hts := S.2.2.2.2
  have hl : lv_has ls 4 [(0, .ref (B 0)), (1, .int (nI i)), (2, .int d)] := hl
  have hI := hM.1
  have hgb := hI.1.1
  have hg0 := hI.1.2.1
  have hg1 := hI.1.2.2.1
  have hg3 := hI.1.2.2.2.1
  have hg4 := hI.1.2.2.2.2.1
  have hg5 := hI.1.2.2.2.2.2
  refine lv_aload_n hx hb dX11_isUnsafe_0 rfl (lv_at hl 0 rfl) ?_
  refine lv_iload_n hx hb dX11_isUnsafe_1 rfl (lv_at hl 1 rfl) ?_
  refine lv_iload_n hx hb dX11_isUnsafe_2 rfl (lv_at hl 2 rfl) ?_
  refine rd_V (As := [.int (nI i), .int d]) (rest := []) (v := some (.int (mIF f g i d))) S hG (c_X11_inForceNow l G B th mc cp f g H hM i d (by omega)) gX11_isUnsafe_X11_inForceNow rfl ⟨rfl, rfl⟩ nmX11_inForceNow ⟨Nat.le_of_ble_eq_true rfl, Nat.le_of_ble_eq_true rfl⟩ (rd_rcv hG.1 (mP_0 hM) rfl) rfl hl.1 rfl (Nat.le_of_ble_eq_true rfl) ⟨Nat.zero_le _, Nat.zero_le _⟩ dX11_isUnsafe_3 ?_
  refine W.eq (g2 := F0 mZ 6 ls [.int (mIF f g i d)]) rfl ?_
  refine lv_topi (fun x1 ex1 => ?_)
  refine lv_istore_n (lv' := [(3, .int x1), (0, .ref (B 0)), (1, .int (nI i)), (2, .int d)]) hx hb dX11_isUnsafe_6 rfl hl (by decide) rfl (fun ls hl => ?_)
  refine lv_iload_n hx hb dX11_isUnsafe_7 rfl (lv_at hl 0 rfl) ?_
  refine lv_iconst (v := (-1)) hx hb dX11_isUnsafe_8 (by decide) ?_
  refine lv_icmp_eq (tgt := 26) hx hb dX11_isUnsafe_9 (by decide) (fun c2 => ?_) (fun c2 => ?_)
  · refine lv_iconst (v := 0) hx hb dX11_isUnsafe_26 (by decide) ?_
    exact rd_zret S hr hlk dX11_isUnsafe_27 (by first | rfl | exact nz_b2i _) (congrArg (fun z => some (Value.int z)) (by subst ex1; first | rfl | (simp only [mUn, b2i, c2, ne_eq, not_true_eq_false, not_false_eq_true, and_true, true_and, and_false, false_and, or_true, true_or, or_false, false_or, and_self, or_self, decide_eq_true_eq, ↓reduceIte]; done) | (simp [mUn, b2i, c2]; done) | (simp only [mUn, b2i, c2, ne_eq, not_true_eq_false, not_false_eq_true, and_true, true_and, and_false, false_and, or_true, true_or, or_false, false_or, and_self, or_self, decide_eq_true_eq, ↓reduceIte])))
  · refine lv_iload_n hx hb dX11_isUnsafe_12 rfl (lv_at hl 0 rfl) ?_
    refine lv_aload_n hx hb dX11_isUnsafe_13 rfl (lv_at hl 1 rfl) ?_
    refine lv_iload_n hx hb dX11_isUnsafe_14 rfl (lv_at hl 2 rfl) ?_
    refine lv_iload_n hx hb dX11_isUnsafe_15 rfl (lv_at hl 3 rfl) ?_
    refine rd_V (As := [.int (nI i), .int d]) (rest := [.int x1]) (v := some (.int (mLH f g i d (-1)))) S hG (c_X11_demandedNow_ l G B th mc cp f g H hM i d (by omega)) gX11_isUnsafe_X11_demandedNow_ rfl ⟨rfl, rfl⟩ nmX11_demandedNow_ ⟨Nat.le_of_ble_eq_true rfl, Nat.le_of_ble_eq_true rfl⟩ (rd_rcv hG.1 (mP_0 hM) rfl) rfl hl.1 rfl (Nat.le_of_ble_eq_true rfl) ⟨Nat.zero_le _, Nat.zero_le _⟩ dX11_isUnsafe_16 ?_
    refine W.eq (g2 := F0 mZ 19 ls [.int (mLH f g i d (-1)), .int x1]) rfl ?_
    refine lv_icmp_ge (tgt := 26) hx hb dX11_isUnsafe_19 (by decide) (fun c3 => ?_) (fun c3 => ?_)
    · have d3 := Int32.not_lt.mpr c3
      refine lv_iconst (v := 0) hx hb dX11_isUnsafe_26 (by decide) ?_
      exact rd_zret S hr hlk dX11_isUnsafe_27 (by first | rfl | exact nz_b2i _) (congrArg (fun z => some (Value.int z)) (by subst ex1; first | rfl | (simp only [mUn, b2i, c2, c3, d3, ne_eq, not_true_eq_false, not_false_eq_true, and_true, true_and, and_false, false_and, or_true, true_or, or_false, false_or, and_self, or_self, decide_eq_true_eq, ↓reduceIte]; done) | (simp [mUn, b2i, c2, c3, d3]; done) | (simp only [mUn, b2i, c2, c3, d3, ne_eq, not_true_eq_false, not_false_eq_true, and_true, true_and, and_false, false_and, or_true, true_or, or_false, false_or, and_self, or_self, decide_eq_true_eq, ↓reduceIte])))
    · have d3 := Int32.not_le.mp c3
      refine lv_iconst (v := 1) hx hb dX11_isUnsafe_22 (by decide) ?_
      refine lv_goto (tgt := 27) hx hb dX11_isUnsafe_23 (by decide) ?_
      exact rd_zret S hr hlk dX11_isUnsafe_27 (by first | rfl | exact nz_b2i _) (congrArg (fun z => some (Value.int z)) (by subst ex1; first | rfl | (simp only [mUn, b2i, c2, c3, d3, ne_eq, not_true_eq_false, not_false_eq_true, and_true, true_and, and_false, false_and, or_true, true_or, or_false, false_or, and_self, or_self, decide_eq_true_eq, ↓reduceIte]; done) | (simp [mUn, b2i, c2, c3, d3]; done) | (simp only [mUn, b2i, c2, c3, d3, ne_eq, not_true_eq_false, not_false_eq_true, and_true, true_and, and_false, false_and, or_true, true_or, or_false, false_or, and_self, or_self, decide_eq_true_eq, ↓reduceIte])))

theorem nmX11_isFull : nmV yX11_isFull RX11 0 := by decide +kernel

set_option maxHeartbeats 1000000 in
set_option maxRecDepth 100000 in
theorem c_X11_isFull (l : Launch) (G : GT) (B : Nat → Nat) (th : Int32) (mc : Nat → Int32) (cp : Nat → Nat) (f : Nat → Nat → Int32) (g : Nat → Nat) (H : Heap) (hM : MP G B th mc cp f g H)  : RdV l G H yX11_isFull wsX11_isFull { frames := 1, cells := 0, slots := 0, locals := 20 } [.ref (B 0)] (some (.int (b2i (mFu g = true)))) := by
  refine rd_of (cc := cX11_isFull) (maxL := 1) (ret := (some .boolean)) (by decide) rfl (Nat.le_of_ble_eq_true rfl) ?_
  intro pZ eZ sZ mZ bZ meZ cZ ls S hr hlk hl hHs hG
  have S : CallFix pZ mZ cZ cX11_isFull 1 sZ _ wsX11_isFull RX11 := S
  have hx := S.1
  have hb := S.2.1
  have hown := S.2.2.2.1
  have hts := S.2.2.2.2
  have hl : lv_has ls 1 [(0, .ref (B 0))] := hl
  have w0 := hts (.fieldLink RX11 26 "MinimaRoomModel" "notices" "Ljava/util/ArrayList;") (by decide +kernel)
  have iX11 : ∀ w ∈ u_ws RX11 TX11 11, w ∈ wsX11_isFull := by decide +kernel
  have hI := hM.1
  have hgb := hI.1.1
  have hg0 := hI.1.2.1
  have hg1 := hI.1.2.2.1
  have hg3 := hI.1.2.2.2.1
  have hg4 := hI.1.2.2.2.2.1
  have hg5 := hI.1.2.2.2.2.2
  refine lv_aload_n hx hb dX11_isFull_0 rfl (lv_at hl 0 rfl) ?_
  refine rd_get (own := RX11) (x := .ref (B 7)) S hG.1 iX11 (mP_0 hM) 8 rfl (by decide) w0 rfl dX11_isFull_1 ?_
  refine rd_V (As := []) (rest := []) (v := some (.int (nI (g 5)))) S hG (c_Jx4a65c_size_8abf5 l G H (B 7) (eA G B cp 7 10) (mc 7) (nI (g 5)) (mP_7 hM)) gX11_isFull_Jx4a65c_size_8abf5 rfl ⟨rfl, rfl⟩ nmJx4a65c_size_8abf5 ⟨Nat.le_of_ble_eq_true rfl, Nat.le_of_ble_eq_true rfl⟩ (rd_rcv hG.1 (mP_7 hM) rfl) rfl hl.1 rfl (Nat.le_of_ble_eq_true rfl) ⟨Nat.zero_le _, Nat.zero_le _⟩ dX11_isFull_4 ?_
  refine W.eq (g2 := F0 mZ 7 ls [.int (nI (g 5))]) rfl ?_
  refine lv_bipush (v := 16) hx hb dX11_isFull_7 (by decide) ?_
  refine lv_icmp_ne (tgt := 16) hx hb dX11_isFull_9 (by decide) (fun c1 => ?_) (fun c1 => ?_)
  · refine lv_iconst (v := 0) hx hb dX11_isFull_16 (by decide) ?_
    exact rd_zret S hr hlk dX11_isFull_17 (by first | rfl | exact nz_b2i _) (congrArg (fun z => some (Value.int z)) (by first | rfl | (simp only [mFu, b2i, c1, ne_eq, not_true_eq_false, not_false_eq_true, and_true, true_and, and_false, false_and, or_true, true_or, or_false, false_or, and_self, or_self, decide_eq_true_eq, ↓reduceIte]; done) | (simp [mFu, b2i, c1]; done) | (simp only [mFu, b2i, c1, ne_eq, not_true_eq_false, not_false_eq_true, and_true, true_and, and_false, false_and, or_true, true_or, or_false, false_or, and_self, or_self, decide_eq_true_eq, ↓reduceIte])))
  · refine lv_iconst (v := 1) hx hb dX11_isFull_12 (by decide) ?_
    refine lv_goto (tgt := 17) hx hb dX11_isFull_13 (by decide) ?_
    exact rd_zret S hr hlk dX11_isFull_17 (by first | rfl | exact nz_b2i _) (congrArg (fun z => some (Value.int z)) (by first | rfl | (simp only [mFu, b2i, c1, ne_eq, not_true_eq_false, not_false_eq_true, and_true, true_and, and_false, false_and, or_true, true_or, or_false, false_or, and_self, or_self, decide_eq_true_eq, ↓reduceIte]; done) | (simp [mFu, b2i, c1]; done) | (simp only [mFu, b2i, c1, ne_eq, not_true_eq_false, not_false_eq_true, and_true, true_and, and_false, false_and, or_true, true_or, or_false, false_or, and_self, or_self, decide_eq_true_eq, ↓reduceIte])))

theorem nmX11_isNoObstacle : nmV yX11_isNoObstacle RX11 1 := by decide +kernel

set_option maxHeartbeats 1000000 in
set_option maxRecDepth 100000 in
theorem c_X11_isNoObstacle (l : Launch) (G : GT) (B : Nat → Nat) (th : Int32) (mc : Nat → Int32) (cp : Nat → Nat) (f : Nat → Nat → Int32) (g : Nat → Nat) (H : Heap) (hM : MP G B th mc cp f g H) (v : Int32) : RdV l G H yX11_isNoObstacle wsX11_isNoObstacle { frames := 1, cells := 0, slots := 0, locals := 22 } [.ref (B 0), .int v] (some (.int (b2i (mNx v (g 1) = true)))) := by
  refine rd_of (cc := cX11_isNoObstacle) (maxL := 2) (ret := (some .boolean)) (by decide) rfl (Nat.le_of_ble_eq_true rfl) ?_
  intro pZ eZ sZ mZ bZ meZ cZ ls S hr hlk hl hHs hG
  have S : CallFix pZ mZ cZ cX11_isNoObstacle 2 sZ _ wsX11_isNoObstacle RX11 := S
  have hx := S.1
  have hb := S.2.1
  have hown := S.2.2.2.1
  have hts := S.2.2.2.2
  have hl : lv_has ls 2 [(0, .ref (B 0)), (1, .int v)] := hl
  have w0 := hts (.fieldLink RX11 10 "MinimaRoomModel" "obstacles" "Ljava/util/ArrayList;") (by decide +kernel)
  have iX11 : ∀ w ∈ u_ws RX11 TX11 11, w ∈ wsX11_isNoObstacle := by decide +kernel
  have hI := hM.1
  have hgb := hI.1.1
  have hg0 := hI.1.2.1
  have hg1 := hI.1.2.2.1
  have hg3 := hI.1.2.2.2.1
  have hg4 := hI.1.2.2.2.2.1
  have hg5 := hI.1.2.2.2.2.2
  refine lv_iload_n hx hb dX11_isNoObstacle_0 rfl (lv_at hl 1 rfl) ?_
  refine lv_iconst (v := 0) hx hb dX11_isNoObstacle_1 (by decide) ?_
  refine lv_aload_n hx hb dX11_isNoObstacle_2 rfl (lv_at hl 0 rfl) ?_
  refine rd_get (own := RX11) (x := .ref (B 5)) S hG.1 iX11 (mP_0 hM) 4 rfl (by decide) w0 rfl dX11_isNoObstacle_3 ?_
  refine rd_V (As := []) (rest := [.int 0, .int v]) (v := some (.int (nI (g 1)))) S hG (c_Jx4a65c_size_8abf5 l G H (B 5) (eA G B cp 5 8) (mc 5) (nI (g 1)) (mP_5 hM)) gX11_isNoObstacle_Jx4a65c_size_8abf5 rfl ⟨rfl, rfl⟩ nmJx4a65c_size_8abf5 ⟨Nat.le_of_ble_eq_true rfl, Nat.le_of_ble_eq_true rfl⟩ (rd_rcv hG.1 (mP_5 hM) rfl) rfl hl.1 rfl (Nat.le_of_ble_eq_true rfl) ⟨Nat.zero_le _, Nat.zero_le _⟩ dX11_isNoObstacle_6 ?_
  refine W.eq (g2 := F0 mZ 9 ls [.int (nI (g 1)), .int 0, .int v]) rfl ?_
  refine lv_iconst (v := 1) hx hb dX11_isNoObstacle_9 (by decide) ?_
  refine lv_isub hx hb dX11_isNoObstacle_10 ?_
  refine rd_S (As := [.int v, .int 0, .int ((nI (g 1)) - 1)]) (rest := []) (v := some (.int (b2i (inB v 0 ((nI (g 1)) - 1) = true)))) S hG (c_X11_isIn l G H v 0 ((nI (g 1)) - 1)) gX11_isNoObstacle_X11_isIn rfl ⟨rfl, rfl⟩ nmX11_isIn ⟨Nat.le_of_ble_eq_true rfl, Nat.le_of_ble_eq_true rfl⟩ rfl hl.1 rfl (Nat.le_of_ble_eq_true rfl) ⟨Nat.zero_le _, Nat.zero_le _⟩ dX11_isNoObstacle_11 ?_
  refine W.eq (g2 := F0 mZ 14 ls [.int (b2i (inB v 0 ((nI (g 1)) - 1) = true))]) rfl ?_
  refine lv_if_ne (tgt := 21) hx hb dX11_isNoObstacle_14 (by decide) (fun c1 => ?_) (fun c1 => ?_)
  · have c1 := b2i_nz.mp c1
    refine lv_iconst (v := 0) hx hb dX11_isNoObstacle_21 (by decide) ?_
    exact rd_zret S hr hlk dX11_isNoObstacle_22 (by first | rfl | exact nz_b2i _) (congrArg (fun z => some (Value.int z)) (by first | rfl | (simp only [mNx, b2i, c1, ne_eq, not_true_eq_false, not_false_eq_true, and_true, true_and, and_false, false_and, or_true, true_or, or_false, false_or, and_self, or_self, decide_eq_true_eq, ↓reduceIte]; done) | (simp [mNx, b2i, c1]; done) | (simp only [mNx, b2i, c1, ne_eq, not_true_eq_false, not_false_eq_true, and_true, true_and, and_false, false_and, or_true, true_or, or_false, false_or, and_self, or_self, decide_eq_true_eq, ↓reduceIte])))
  · have c1 := b2i_z.mp c1
    refine lv_iconst (v := 1) hx hb dX11_isNoObstacle_17 (by decide) ?_
    refine lv_goto (tgt := 22) hx hb dX11_isNoObstacle_18 (by decide) ?_
    exact rd_zret S hr hlk dX11_isNoObstacle_22 (by first | rfl | exact nz_b2i _) (congrArg (fun z => some (Value.int z)) (by first | rfl | (simp only [mNx, b2i, c1, ne_eq, not_true_eq_false, not_false_eq_true, and_true, true_and, and_false, false_and, or_true, true_or, or_false, false_or, and_self, or_self, decide_eq_true_eq, ↓reduceIte]; done) | (simp [mNx, b2i, c1]; done) | (simp only [mNx, b2i, c1, ne_eq, not_true_eq_false, not_false_eq_true, and_true, true_and, and_false, false_and, or_true, true_or, or_false, false_or, and_self, or_self, decide_eq_true_eq, ↓reduceIte])))

theorem nmX11_isNoProcedure : nmV yX11_isNoProcedure RX11 1 := by decide +kernel

set_option maxHeartbeats 1000000 in
set_option maxRecDepth 100000 in
theorem c_X11_isNoProcedure (l : Launch) (G : GT) (B : Nat → Nat) (th : Int32) (mc : Nat → Int32) (cp : Nat → Nat) (f : Nat → Nat → Int32) (g : Nat → Nat) (H : Heap) (hM : MP G B th mc cp f g H) (v : Int32) : RdV l G H yX11_isNoProcedure wsX11_isNoProcedure { frames := 1, cells := 0, slots := 0, locals := 22 } [.ref (B 0), .int v] (some (.int (b2i (mNx v (g 3) = true)))) := by
  refine rd_of (cc := cX11_isNoProcedure) (maxL := 2) (ret := (some .boolean)) (by decide) rfl (Nat.le_of_ble_eq_true rfl) ?_
  intro pZ eZ sZ mZ bZ meZ cZ ls S hr hlk hl hHs hG
  have S : CallFix pZ mZ cZ cX11_isNoProcedure 2 sZ _ wsX11_isNoProcedure RX11 := S
  have hx := S.1
  have hb := S.2.1
  have hown := S.2.2.2.1
  have hts := S.2.2.2.2
  have hl : lv_has ls 2 [(0, .ref (B 0)), (1, .int v)] := hl
  have w0 := hts (.fieldLink RX11 23 "MinimaRoomModel" "procedures" "Ljava/util/ArrayList;") (by decide +kernel)
  have iX11 : ∀ w ∈ u_ws RX11 TX11 11, w ∈ wsX11_isNoProcedure := by decide +kernel
  have hI := hM.1
  have hgb := hI.1.1
  have hg0 := hI.1.2.1
  have hg1 := hI.1.2.2.1
  have hg3 := hI.1.2.2.2.1
  have hg4 := hI.1.2.2.2.2.1
  have hg5 := hI.1.2.2.2.2.2
  refine lv_iload_n hx hb dX11_isNoProcedure_0 rfl (lv_at hl 1 rfl) ?_
  refine lv_iconst (v := 0) hx hb dX11_isNoProcedure_1 (by decide) ?_
  refine lv_aload_n hx hb dX11_isNoProcedure_2 rfl (lv_at hl 0 rfl) ?_
  refine rd_get (own := RX11) (x := .ref (B 6)) S hG.1 iX11 (mP_0 hM) 7 rfl (by decide) w0 rfl dX11_isNoProcedure_3 ?_
  refine rd_V (As := []) (rest := [.int 0, .int v]) (v := some (.int (nI (g 3)))) S hG (c_Jx4a65c_size_8abf5 l G H (B 6) (eA G B cp 6 9) (mc 6) (nI (g 3)) (mP_6 hM)) gX11_isNoProcedure_Jx4a65c_size_8abf5 rfl ⟨rfl, rfl⟩ nmJx4a65c_size_8abf5 ⟨Nat.le_of_ble_eq_true rfl, Nat.le_of_ble_eq_true rfl⟩ (rd_rcv hG.1 (mP_6 hM) rfl) rfl hl.1 rfl (Nat.le_of_ble_eq_true rfl) ⟨Nat.zero_le _, Nat.zero_le _⟩ dX11_isNoProcedure_6 ?_
  refine W.eq (g2 := F0 mZ 9 ls [.int (nI (g 3)), .int 0, .int v]) rfl ?_
  refine lv_iconst (v := 1) hx hb dX11_isNoProcedure_9 (by decide) ?_
  refine lv_isub hx hb dX11_isNoProcedure_10 ?_
  refine rd_S (As := [.int v, .int 0, .int ((nI (g 3)) - 1)]) (rest := []) (v := some (.int (b2i (inB v 0 ((nI (g 3)) - 1) = true)))) S hG (c_X11_isIn l G H v 0 ((nI (g 3)) - 1)) gX11_isNoProcedure_X11_isIn rfl ⟨rfl, rfl⟩ nmX11_isIn ⟨Nat.le_of_ble_eq_true rfl, Nat.le_of_ble_eq_true rfl⟩ rfl hl.1 rfl (Nat.le_of_ble_eq_true rfl) ⟨Nat.zero_le _, Nat.zero_le _⟩ dX11_isNoProcedure_11 ?_
  refine W.eq (g2 := F0 mZ 14 ls [.int (b2i (inB v 0 ((nI (g 3)) - 1) = true))]) rfl ?_
  refine lv_if_ne (tgt := 21) hx hb dX11_isNoProcedure_14 (by decide) (fun c1 => ?_) (fun c1 => ?_)
  · have c1 := b2i_nz.mp c1
    refine lv_iconst (v := 0) hx hb dX11_isNoProcedure_21 (by decide) ?_
    exact rd_zret S hr hlk dX11_isNoProcedure_22 (by first | rfl | exact nz_b2i _) (congrArg (fun z => some (Value.int z)) (by first | rfl | (simp only [mNx, b2i, c1, ne_eq, not_true_eq_false, not_false_eq_true, and_true, true_and, and_false, false_and, or_true, true_or, or_false, false_or, and_self, or_self, decide_eq_true_eq, ↓reduceIte]; done) | (simp [mNx, b2i, c1]; done) | (simp only [mNx, b2i, c1, ne_eq, not_true_eq_false, not_false_eq_true, and_true, true_and, and_false, false_and, or_true, true_or, or_false, false_or, and_self, or_self, decide_eq_true_eq, ↓reduceIte])))
  · have c1 := b2i_z.mp c1
    refine lv_iconst (v := 1) hx hb dX11_isNoProcedure_17 (by decide) ?_
    refine lv_goto (tgt := 22) hx hb dX11_isNoProcedure_18 (by decide) ?_
    exact rd_zret S hr hlk dX11_isNoProcedure_22 (by first | rfl | exact nz_b2i _) (congrArg (fun z => some (Value.int z)) (by first | rfl | (simp only [mNx, b2i, c1, ne_eq, not_true_eq_false, not_false_eq_true, and_true, true_and, and_false, false_and, or_true, true_or, or_false, false_or, and_self, or_self, decide_eq_true_eq, ↓reduceIte]; done) | (simp [mNx, b2i, c1]; done) | (simp only [mNx, b2i, c1, ne_eq, not_true_eq_false, not_false_eq_true, and_true, true_and, and_false, false_and, or_true, true_or, or_false, false_or, and_self, or_self, decide_eq_true_eq, ↓reduceIte])))

theorem nmX11_isNoAid : nmV yX11_isNoAid RX11 1 := by decide +kernel

set_option maxHeartbeats 1000000 in
set_option maxRecDepth 100000 in
theorem c_X11_isNoAid (l : Launch) (G : GT) (H : Heap) (v : Int32) : RdV l G H yX11_isNoAid wsX11_isNoAid { frames := 1, cells := 0, slots := 0, locals := 22 } [.int v] (some (.int (b2i (mNr v 0 2 = true)))) := by
  refine rd_of (cc := cX11_isNoAid) (maxL := 1) (ret := (some .boolean)) (by decide) rfl (Nat.le_of_ble_eq_true rfl) ?_
  intro pZ eZ sZ mZ bZ meZ cZ ls S hr hlk hl hHs hG
  have S : CallFix pZ mZ cZ cX11_isNoAid 1 sZ _ wsX11_isNoAid RX11 := S
  have hx := S.1
  have hb := S.2.1
  have hown := S.2.2.2.1
  have hts := S.2.2.2.2
  have hl : lv_has ls 1 [(0, .int v)] := hl
  refine lv_iload_n hx hb dX11_isNoAid_0 rfl (lv_at hl 0 rfl) ?_
  refine lv_iconst (v := 0) hx hb dX11_isNoAid_1 (by decide) ?_
  refine lv_iconst (v := 2) hx hb dX11_isNoAid_2 (by decide) ?_
  refine rd_S (As := [.int v, .int 0, .int 2]) (rest := []) (v := some (.int (b2i (inB v 0 2 = true)))) S hG (c_X11_isIn l G H v 0 2) gX11_isNoAid_X11_isIn rfl ⟨rfl, rfl⟩ nmX11_isIn ⟨Nat.le_of_ble_eq_true rfl, Nat.le_of_ble_eq_true rfl⟩ rfl hl.1 rfl (Nat.le_of_ble_eq_true rfl) ⟨Nat.zero_le _, Nat.zero_le _⟩ dX11_isNoAid_3 ?_
  refine W.eq (g2 := F0 mZ 6 ls [.int (b2i (inB v 0 2 = true))]) rfl ?_
  refine lv_if_ne (tgt := 13) hx hb dX11_isNoAid_6 (by decide) (fun c1 => ?_) (fun c1 => ?_)
  · have c1 := b2i_nz.mp c1
    refine lv_iconst (v := 0) hx hb dX11_isNoAid_13 (by decide) ?_
    exact rd_zret S hr hlk dX11_isNoAid_14 (by first | rfl | exact nz_b2i _) (congrArg (fun z => some (Value.int z)) (by first | rfl | (simp only [mNr, b2i, c1, ne_eq, not_true_eq_false, not_false_eq_true, and_true, true_and, and_false, false_and, or_true, true_or, or_false, false_or, and_self, or_self, decide_eq_true_eq, ↓reduceIte]; done) | (simp [mNr, b2i, c1]; done) | (simp only [mNr, b2i, c1, ne_eq, not_true_eq_false, not_false_eq_true, and_true, true_and, and_false, false_and, or_true, true_or, or_false, false_or, and_self, or_self, decide_eq_true_eq, ↓reduceIte])))
  · have c1 := b2i_z.mp c1
    refine lv_iconst (v := 1) hx hb dX11_isNoAid_9 (by decide) ?_
    refine lv_goto (tgt := 14) hx hb dX11_isNoAid_10 (by decide) ?_
    exact rd_zret S hr hlk dX11_isNoAid_14 (by first | rfl | exact nz_b2i _) (congrArg (fun z => some (Value.int z)) (by first | rfl | (simp only [mNr, b2i, c1, ne_eq, not_true_eq_false, not_false_eq_true, and_true, true_and, and_false, false_and, or_true, true_or, or_false, false_or, and_self, or_self, decide_eq_true_eq, ↓reduceIte]; done) | (simp [mNr, b2i, c1]; done) | (simp only [mNr, b2i, c1, ne_eq, not_true_eq_false, not_false_eq_true, and_true, true_and, and_false, false_and, or_true, true_or, or_false, false_or, and_self, or_self, decide_eq_true_eq, ↓reduceIte])))

theorem nmX11_isNoCrew : nmV yX11_isNoCrew RX11 1 := by decide +kernel

set_option maxHeartbeats 1000000 in
set_option maxRecDepth 100000 in
theorem c_X11_isNoCrew (l : Launch) (G : GT) (H : Heap) (v : Int32) : RdV l G H yX11_isNoCrew wsX11_isNoCrew { frames := 1, cells := 0, slots := 0, locals := 22 } [.int v] (some (.int (b2i (mNr v 0 3 = true)))) := by
  refine rd_of (cc := cX11_isNoCrew) (maxL := 1) (ret := (some .boolean)) (by decide) rfl (Nat.le_of_ble_eq_true rfl) ?_
  intro pZ eZ sZ mZ bZ meZ cZ ls S hr hlk hl hHs hG
  have S : CallFix pZ mZ cZ cX11_isNoCrew 1 sZ _ wsX11_isNoCrew RX11 := S
  have hx := S.1
  have hb := S.2.1
  have hown := S.2.2.2.1
  have hts := S.2.2.2.2
  have hl : lv_has ls 1 [(0, .int v)] := hl
  refine lv_iload_n hx hb dX11_isNoCrew_0 rfl (lv_at hl 0 rfl) ?_
  refine lv_iconst (v := 0) hx hb dX11_isNoCrew_1 (by decide) ?_
  refine lv_iconst (v := 3) hx hb dX11_isNoCrew_2 (by decide) ?_
  refine rd_S (As := [.int v, .int 0, .int 3]) (rest := []) (v := some (.int (b2i (inB v 0 3 = true)))) S hG (c_X11_isIn l G H v 0 3) gX11_isNoCrew_X11_isIn rfl ⟨rfl, rfl⟩ nmX11_isIn ⟨Nat.le_of_ble_eq_true rfl, Nat.le_of_ble_eq_true rfl⟩ rfl hl.1 rfl (Nat.le_of_ble_eq_true rfl) ⟨Nat.zero_le _, Nat.zero_le _⟩ dX11_isNoCrew_3 ?_
  refine W.eq (g2 := F0 mZ 6 ls [.int (b2i (inB v 0 3 = true))]) rfl ?_
  refine lv_if_ne (tgt := 13) hx hb dX11_isNoCrew_6 (by decide) (fun c1 => ?_) (fun c1 => ?_)
  · have c1 := b2i_nz.mp c1
    refine lv_iconst (v := 0) hx hb dX11_isNoCrew_13 (by decide) ?_
    exact rd_zret S hr hlk dX11_isNoCrew_14 (by first | rfl | exact nz_b2i _) (congrArg (fun z => some (Value.int z)) (by first | rfl | (simp only [mNr, b2i, c1, ne_eq, not_true_eq_false, not_false_eq_true, and_true, true_and, and_false, false_and, or_true, true_or, or_false, false_or, and_self, or_self, decide_eq_true_eq, ↓reduceIte]; done) | (simp [mNr, b2i, c1]; done) | (simp only [mNr, b2i, c1, ne_eq, not_true_eq_false, not_false_eq_true, and_true, true_and, and_false, false_and, or_true, true_or, or_false, false_or, and_self, or_self, decide_eq_true_eq, ↓reduceIte])))
  · have c1 := b2i_z.mp c1
    refine lv_iconst (v := 1) hx hb dX11_isNoCrew_9 (by decide) ?_
    refine lv_goto (tgt := 14) hx hb dX11_isNoCrew_10 (by decide) ?_
    exact rd_zret S hr hlk dX11_isNoCrew_14 (by first | rfl | exact nz_b2i _) (congrArg (fun z => some (Value.int z)) (by first | rfl | (simp only [mNr, b2i, c1, ne_eq, not_true_eq_false, not_false_eq_true, and_true, true_and, and_false, false_and, or_true, true_or, or_false, false_or, and_self, or_self, decide_eq_true_eq, ↓reduceIte]; done) | (simp [mNr, b2i, c1]; done) | (simp only [mNr, b2i, c1, ne_eq, not_true_eq_false, not_false_eq_true, and_true, true_and, and_false, false_and, or_true, true_or, or_false, false_or, and_self, or_self, decide_eq_true_eq, ↓reduceIte])))

theorem nmX11_isNoDay : nmV yX11_isNoDay RX11 1 := by decide +kernel

set_option maxHeartbeats 1000000 in
set_option maxRecDepth 100000 in
theorem c_X11_isNoDay (l : Launch) (G : GT) (H : Heap) (v : Int32) : RdV l G H yX11_isNoDay wsX11_isNoDay { frames := 1, cells := 0, slots := 0, locals := 22 } [.int v] (some (.int (b2i (mNr v 0 399 = true)))) := by
  refine rd_of (cc := cX11_isNoDay) (maxL := 1) (ret := (some .boolean)) (by decide) rfl (Nat.le_of_ble_eq_true rfl) ?_
  intro pZ eZ sZ mZ bZ meZ cZ ls S hr hlk hl hHs hG
  have S : CallFix pZ mZ cZ cX11_isNoDay 1 sZ _ wsX11_isNoDay RX11 := S
  have hx := S.1
  have hb := S.2.1
  have hown := S.2.2.2.1
  have hts := S.2.2.2.2
  have hl : lv_has ls 1 [(0, .int v)] := hl
  refine lv_iload_n hx hb dX11_isNoDay_0 rfl (lv_at hl 0 rfl) ?_
  refine lv_iconst (v := 0) hx hb dX11_isNoDay_1 (by decide) ?_
  refine lv_sipush (v := 399) hx hb dX11_isNoDay_2 (by decide) ?_
  refine rd_S (As := [.int v, .int 0, .int 399]) (rest := []) (v := some (.int (b2i (inB v 0 399 = true)))) S hG (c_X11_isIn l G H v 0 399) gX11_isNoDay_X11_isIn rfl ⟨rfl, rfl⟩ nmX11_isIn ⟨Nat.le_of_ble_eq_true rfl, Nat.le_of_ble_eq_true rfl⟩ rfl hl.1 rfl (Nat.le_of_ble_eq_true rfl) ⟨Nat.zero_le _, Nat.zero_le _⟩ dX11_isNoDay_5 ?_
  refine W.eq (g2 := F0 mZ 8 ls [.int (b2i (inB v 0 399 = true))]) rfl ?_
  refine lv_if_ne (tgt := 15) hx hb dX11_isNoDay_8 (by decide) (fun c1 => ?_) (fun c1 => ?_)
  · have c1 := b2i_nz.mp c1
    refine lv_iconst (v := 0) hx hb dX11_isNoDay_15 (by decide) ?_
    exact rd_zret S hr hlk dX11_isNoDay_16 (by first | rfl | exact nz_b2i _) (congrArg (fun z => some (Value.int z)) (by first | rfl | (simp only [mNr, b2i, c1, ne_eq, not_true_eq_false, not_false_eq_true, and_true, true_and, and_false, false_and, or_true, true_or, or_false, false_or, and_self, or_self, decide_eq_true_eq, ↓reduceIte]; done) | (simp [mNr, b2i, c1]; done) | (simp only [mNr, b2i, c1, ne_eq, not_true_eq_false, not_false_eq_true, and_true, true_and, and_false, false_and, or_true, true_or, or_false, false_or, and_self, or_self, decide_eq_true_eq, ↓reduceIte])))
  · have c1 := b2i_z.mp c1
    refine lv_iconst (v := 1) hx hb dX11_isNoDay_11 (by decide) ?_
    refine lv_goto (tgt := 16) hx hb dX11_isNoDay_12 (by decide) ?_
    exact rd_zret S hr hlk dX11_isNoDay_16 (by first | rfl | exact nz_b2i _) (congrArg (fun z => some (Value.int z)) (by first | rfl | (simp only [mNr, b2i, c1, ne_eq, not_true_eq_false, not_false_eq_true, and_true, true_and, and_false, false_and, or_true, true_or, or_false, false_or, and_self, or_self, decide_eq_true_eq, ↓reduceIte]; done) | (simp [mNr, b2i, c1]; done) | (simp only [mNr, b2i, c1, ne_eq, not_true_eq_false, not_false_eq_true, and_true, true_and, and_false, false_and, or_true, true_or, or_false, false_or, and_self, or_self, decide_eq_true_eq, ↓reduceIte])))

theorem nmX11_isNoCategory : nmV yX11_isNoCategory RX11 1 := by decide +kernel

set_option maxHeartbeats 1000000 in
set_option maxRecDepth 100000 in
theorem c_X11_isNoCategory (l : Launch) (G : GT) (H : Heap) (v : Int32) : RdV l G H yX11_isNoCategory wsX11_isNoCategory { frames := 1, cells := 0, slots := 0, locals := 22 } [.int v] (some (.int (b2i (mNr v 0 3 = true)))) := by
  refine rd_of (cc := cX11_isNoCategory) (maxL := 1) (ret := (some .boolean)) (by decide) rfl (Nat.le_of_ble_eq_true rfl) ?_
  intro pZ eZ sZ mZ bZ meZ cZ ls S hr hlk hl hHs hG
  have S : CallFix pZ mZ cZ cX11_isNoCategory 1 sZ _ wsX11_isNoCategory RX11 := S
  have hx := S.1
  have hb := S.2.1
  have hown := S.2.2.2.1
  have hts := S.2.2.2.2
  have hl : lv_has ls 1 [(0, .int v)] := hl
  refine lv_iload_n hx hb dX11_isNoCategory_0 rfl (lv_at hl 0 rfl) ?_
  refine lv_iconst (v := 0) hx hb dX11_isNoCategory_1 (by decide) ?_
  refine lv_iconst (v := 3) hx hb dX11_isNoCategory_2 (by decide) ?_
  refine rd_S (As := [.int v, .int 0, .int 3]) (rest := []) (v := some (.int (b2i (inB v 0 3 = true)))) S hG (c_X11_isIn l G H v 0 3) gX11_isNoCategory_X11_isIn rfl ⟨rfl, rfl⟩ nmX11_isIn ⟨Nat.le_of_ble_eq_true rfl, Nat.le_of_ble_eq_true rfl⟩ rfl hl.1 rfl (Nat.le_of_ble_eq_true rfl) ⟨Nat.zero_le _, Nat.zero_le _⟩ dX11_isNoCategory_3 ?_
  refine W.eq (g2 := F0 mZ 6 ls [.int (b2i (inB v 0 3 = true))]) rfl ?_
  refine lv_if_ne (tgt := 13) hx hb dX11_isNoCategory_6 (by decide) (fun c1 => ?_) (fun c1 => ?_)
  · have c1 := b2i_nz.mp c1
    refine lv_iconst (v := 0) hx hb dX11_isNoCategory_13 (by decide) ?_
    exact rd_zret S hr hlk dX11_isNoCategory_14 (by first | rfl | exact nz_b2i _) (congrArg (fun z => some (Value.int z)) (by first | rfl | (simp only [mNr, b2i, c1, ne_eq, not_true_eq_false, not_false_eq_true, and_true, true_and, and_false, false_and, or_true, true_or, or_false, false_or, and_self, or_self, decide_eq_true_eq, ↓reduceIte]; done) | (simp [mNr, b2i, c1]; done) | (simp only [mNr, b2i, c1, ne_eq, not_true_eq_false, not_false_eq_true, and_true, true_and, and_false, false_and, or_true, true_or, or_false, false_or, and_self, or_self, decide_eq_true_eq, ↓reduceIte])))
  · have c1 := b2i_z.mp c1
    refine lv_iconst (v := 1) hx hb dX11_isNoCategory_9 (by decide) ?_
    refine lv_goto (tgt := 14) hx hb dX11_isNoCategory_10 (by decide) ?_
    exact rd_zret S hr hlk dX11_isNoCategory_14 (by first | rfl | exact nz_b2i _) (congrArg (fun z => some (Value.int z)) (by first | rfl | (simp only [mNr, b2i, c1, ne_eq, not_true_eq_false, not_false_eq_true, and_true, true_and, and_false, false_and, or_true, true_or, or_false, false_or, and_self, or_self, decide_eq_true_eq, ↓reduceIte]; done) | (simp [mNr, b2i, c1]; done) | (simp only [mNr, b2i, c1, ne_eq, not_true_eq_false, not_false_eq_true, and_true, true_and, and_false, false_and, or_true, true_or, or_false, false_or, and_self, or_self, decide_eq_true_eq, ↓reduceIte])))

theorem nmX11_isNoPlace : nmV yX11_isNoPlace RX11 4 := by decide +kernel

set_option maxHeartbeats 1000000 in
set_option maxRecDepth 100000 in
theorem c_X11_isNoPlace (l : Launch) (G : GT) (H : Heap) (x : Int32) (y : Int32) (a : Int32) (b : Int32) : RdV l G H yX11_isNoPlace wsX11_isNoPlace { frames := 2, cells := 0, slots := 0, locals := 42 } [.int x, .int y, .int a, .int b] (some (.int (b2i (mNP x y a b = true)))) := by
  refine rd_of (cc := cX11_isNoPlace) (maxL := 4) (ret := (some .boolean)) (by decide) rfl (Nat.le_of_ble_eq_true rfl) ?_
  intro pZ eZ sZ mZ bZ meZ cZ ls S hr hlk hl hHs hG
  have S : CallFix pZ mZ cZ cX11_isNoPlace 4 sZ _ wsX11_isNoPlace RX11 := S
  have hx := S.1
  have hb := S.2.1
  have hown := S.2.2.2.1
  have hts := S.2.2.2.2
  have hl : lv_has ls 4 [(0, .int x), (1, .int y), (2, .int a), (3, .int b)] := hl
  refine lv_iload_n hx hb dX11_isNoPlace_0 rfl (lv_at hl 0 rfl) ?_
  refine lv_bipush (v := (-20)) hx hb dX11_isNoPlace_1 (by decide) ?_
  refine lv_bipush (v := 60) hx hb dX11_isNoPlace_3 (by decide) ?_
  refine rd_S (As := [.int x, .int (-20), .int 60]) (rest := []) (v := some (.int (b2i (inB x (-20) 60 = true)))) S hG (c_X11_isIn l G H x (-20) 60) gX11_isNoPlace_X11_isIn rfl ⟨rfl, rfl⟩ nmX11_isIn ⟨Nat.le_of_ble_eq_true rfl, Nat.le_of_ble_eq_true rfl⟩ rfl hl.1 rfl (Nat.le_of_ble_eq_true rfl) ⟨Nat.zero_le _, Nat.zero_le _⟩ dX11_isNoPlace_5 ?_
  refine W.eq (g2 := F0 mZ 8 ls [.int (b2i (inB x (-20) 60 = true))]) rfl ?_
  refine lv_if_eq (tgt := 45) hx hb dX11_isNoPlace_8 (by decide) (fun c1 => ?_) (fun c1 => ?_)
  · have c1 := b2i_z.mp c1
    refine lv_iconst (v := 1) hx hb dX11_isNoPlace_45 (by decide) ?_
    refine lv_goto (tgt := 50) hx hb dX11_isNoPlace_46 (by decide) ?_
    exact rd_zret S hr hlk dX11_isNoPlace_50 (by first | rfl | exact nz_b2i _) (congrArg (fun z => some (Value.int z)) (by first | rfl | (simp only [mNP, b2i, c1, ne_eq, not_true_eq_false, not_false_eq_true, and_true, true_and, and_false, false_and, or_true, true_or, or_false, false_or, and_self, or_self, decide_eq_true_eq, ↓reduceIte]; done) | (simp [mNP, b2i, c1]; done) | (simp only [mNP, b2i, c1, ne_eq, not_true_eq_false, not_false_eq_true, and_true, true_and, and_false, false_and, or_true, true_or, or_false, false_or, and_self, or_self, decide_eq_true_eq, ↓reduceIte])))
  · have c1 := b2i_nz.mp c1
    refine lv_iload_n hx hb dX11_isNoPlace_11 rfl (lv_at hl 1 rfl) ?_
    refine lv_bipush (v := (-9)) hx hb dX11_isNoPlace_12 (by decide) ?_
    refine lv_bipush (v := 9) hx hb dX11_isNoPlace_14 (by decide) ?_
    refine rd_S (As := [.int y, .int (-9), .int 9]) (rest := []) (v := some (.int (b2i (inB y (-9) 9 = true)))) S hG (c_X11_isIn l G H y (-9) 9) gX11_isNoPlace_X11_isIn rfl ⟨rfl, rfl⟩ nmX11_isIn ⟨Nat.le_of_ble_eq_true rfl, Nat.le_of_ble_eq_true rfl⟩ rfl hl.1 rfl (Nat.le_of_ble_eq_true rfl) ⟨Nat.zero_le _, Nat.zero_le _⟩ dX11_isNoPlace_16 ?_
    refine W.eq (g2 := F0 mZ 19 ls [.int (b2i (inB y (-9) 9 = true))]) rfl ?_
    refine lv_if_eq (tgt := 45) hx hb dX11_isNoPlace_19 (by decide) (fun c2 => ?_) (fun c2 => ?_)
    · have c2 := b2i_z.mp c2
      refine lv_iconst (v := 1) hx hb dX11_isNoPlace_45 (by decide) ?_
      refine lv_goto (tgt := 50) hx hb dX11_isNoPlace_46 (by decide) ?_
      exact rd_zret S hr hlk dX11_isNoPlace_50 (by first | rfl | exact nz_b2i _) (congrArg (fun z => some (Value.int z)) (by first | rfl | (simp only [mNP, b2i, c1, c2, ne_eq, not_true_eq_false, not_false_eq_true, and_true, true_and, and_false, false_and, or_true, true_or, or_false, false_or, and_self, or_self, decide_eq_true_eq, ↓reduceIte]; done) | (simp [mNP, b2i, c1, c2]; done) | (simp only [mNP, b2i, c1, c2, ne_eq, not_true_eq_false, not_false_eq_true, and_true, true_and, and_false, false_and, or_true, true_or, or_false, false_or, and_self, or_self, decide_eq_true_eq, ↓reduceIte])))
    · have c2 := b2i_nz.mp c2
      refine lv_iload_n hx hb dX11_isNoPlace_22 rfl (lv_at hl 2 rfl) ?_
      refine rd_S (As := [.int a]) (rest := []) (v := some (.int (b2i (mNr a 0 399 = true)))) S hG (c_X11_isNoDay l G H a) gX11_isNoPlace_X11_isNoDay rfl ⟨rfl, rfl⟩ nmX11_isNoDay ⟨Nat.le_of_ble_eq_true rfl, Nat.le_of_ble_eq_true rfl⟩ rfl hl.1 rfl (Nat.le_of_ble_eq_true rfl) ⟨Nat.zero_le _, Nat.zero_le _⟩ dX11_isNoPlace_23 ?_
      refine W.eq (g2 := F0 mZ 26 ls [.int (b2i (mNr a 0 399 = true))]) rfl ?_
      refine lv_if_ne (tgt := 45) hx hb dX11_isNoPlace_26 (by decide) (fun c3 => ?_) (fun c3 => ?_)
      · have c3 := b2i_nz.mp c3
        refine lv_iconst (v := 1) hx hb dX11_isNoPlace_45 (by decide) ?_
        refine lv_goto (tgt := 50) hx hb dX11_isNoPlace_46 (by decide) ?_
        exact rd_zret S hr hlk dX11_isNoPlace_50 (by first | rfl | exact nz_b2i _) (congrArg (fun z => some (Value.int z)) (by first | rfl | (simp only [mNP, b2i, c1, c2, c3, ne_eq, not_true_eq_false, not_false_eq_true, and_true, true_and, and_false, false_and, or_true, true_or, or_false, false_or, and_self, or_self, decide_eq_true_eq, ↓reduceIte]; done) | (simp [mNP, b2i, c1, c2, c3]; done) | (simp only [mNP, b2i, c1, c2, c3, ne_eq, not_true_eq_false, not_false_eq_true, and_true, true_and, and_false, false_and, or_true, true_or, or_false, false_or, and_self, or_self, decide_eq_true_eq, ↓reduceIte])))
      · have c3 := b2i_z.mp c3
        refine lv_iload_n hx hb dX11_isNoPlace_29 rfl (lv_at hl 3 rfl) ?_
        refine lv_iconst (v := (-1)) hx hb dX11_isNoPlace_30 (by decide) ?_
        refine lv_icmp_eq (tgt := 49) hx hb dX11_isNoPlace_31 (by decide) (fun c4 => ?_) (fun c4 => ?_)
        · refine lv_iconst (v := 0) hx hb dX11_isNoPlace_49 (by decide) ?_
          exact rd_zret S hr hlk dX11_isNoPlace_50 (by first | rfl | exact nz_b2i _) (congrArg (fun z => some (Value.int z)) (by first | rfl | (simp only [mNP, b2i, c1, c2, c3, c4, ne_eq, not_true_eq_false, not_false_eq_true, and_true, true_and, and_false, false_and, or_true, true_or, or_false, false_or, and_self, or_self, decide_eq_true_eq, ↓reduceIte]; done) | (simp [mNP, b2i, c1, c2, c3, c4]; done) | (simp only [mNP, b2i, c1, c2, c3, c4, ne_eq, not_true_eq_false, not_false_eq_true, and_true, true_and, and_false, false_and, or_true, true_or, or_false, false_or, and_self, or_self, decide_eq_true_eq, ↓reduceIte])))
        · refine lv_iload_n hx hb dX11_isNoPlace_34 rfl (lv_at hl 3 rfl) ?_
          refine lv_iload_n hx hb dX11_isNoPlace_35 rfl (lv_at hl 2 rfl) ?_
          refine lv_sipush (v := 399) hx hb dX11_isNoPlace_36 (by decide) ?_
          refine rd_S (As := [.int b, .int a, .int 399]) (rest := []) (v := some (.int (b2i (inB b a 399 = true)))) S hG (c_X11_isIn l G H b a 399) gX11_isNoPlace_X11_isIn rfl ⟨rfl, rfl⟩ nmX11_isIn ⟨Nat.le_of_ble_eq_true rfl, Nat.le_of_ble_eq_true rfl⟩ rfl hl.1 rfl (Nat.le_of_ble_eq_true rfl) ⟨Nat.zero_le _, Nat.zero_le _⟩ dX11_isNoPlace_39 ?_
          refine W.eq (g2 := F0 mZ 42 ls [.int (b2i (inB b a 399 = true))]) rfl ?_
          refine lv_if_ne (tgt := 49) hx hb dX11_isNoPlace_42 (by decide) (fun c5 => ?_) (fun c5 => ?_)
          · have c5 := b2i_nz.mp c5
            refine lv_iconst (v := 0) hx hb dX11_isNoPlace_49 (by decide) ?_
            exact rd_zret S hr hlk dX11_isNoPlace_50 (by first | rfl | exact nz_b2i _) (congrArg (fun z => some (Value.int z)) (by first | rfl | (simp only [mNP, b2i, c1, c2, c3, c4, c5, ne_eq, not_true_eq_false, not_false_eq_true, and_true, true_and, and_false, false_and, or_true, true_or, or_false, false_or, and_self, or_self, decide_eq_true_eq, ↓reduceIte]; done) | (simp [mNP, b2i, c1, c2, c3, c4, c5]; done) | (simp only [mNP, b2i, c1, c2, c3, c4, c5, ne_eq, not_true_eq_false, not_false_eq_true, and_true, true_and, and_false, false_and, or_true, true_or, or_false, false_or, and_self, or_self, decide_eq_true_eq, ↓reduceIte])))
          · have c5 := b2i_z.mp c5
            refine lv_iconst (v := 1) hx hb dX11_isNoPlace_45 (by decide) ?_
            refine lv_goto (tgt := 50) hx hb dX11_isNoPlace_46 (by decide) ?_
            exact rd_zret S hr hlk dX11_isNoPlace_50 (by first | rfl | exact nz_b2i _) (congrArg (fun z => some (Value.int z)) (by first | rfl | (simp only [mNP, b2i, c1, c2, c3, c4, c5, ne_eq, not_true_eq_false, not_false_eq_true, and_true, true_and, and_false, false_and, or_true, true_or, or_false, false_or, and_self, or_self, decide_eq_true_eq, ↓reduceIte]; done) | (simp [mNP, b2i, c1, c2, c3, c4, c5]; done) | (simp only [mNP, b2i, c1, c2, c3, c4, c5, ne_eq, not_true_eq_false, not_false_eq_true, and_true, true_and, and_false, false_and, or_true, true_or, or_false, false_or, and_self, or_self, decide_eq_true_eq, ↓reduceIte])))

theorem nmX11_isNoTime : nmV yX11_isNoTime RX11 2 := by decide +kernel

set_option maxHeartbeats 1000000 in
set_option maxRecDepth 100000 in
theorem c_X11_isNoTime (l : Launch) (G : GT) (B : Nat → Nat) (th : Int32) (mc : Nat → Int32) (cp : Nat → Nat) (f : Nat → Nat → Int32) (g : Nat → Nat) (H : Heap) (hM : MP G B th mc cp f g H) (a : Int32) (b : Int32) : RdV l G H yX11_isNoTime wsX11_isNoTime { frames := 1, cells := 0, slots := 0, locals := 22 } [.ref (B 0), .int a, .int b] (some (.int (b2i (mNT g a b = true)))) := by
  refine rd_of (cc := cX11_isNoTime) (maxL := 3) (ret := (some .boolean)) (by decide) rfl (Nat.le_of_ble_eq_true rfl) ?_
  intro pZ eZ sZ mZ bZ meZ cZ ls S hr hlk hl hHs hG
  have S : CallFix pZ mZ cZ cX11_isNoTime 3 sZ _ wsX11_isNoTime RX11 := S
  have hx := S.1
  have hb := S.2.1
  have hown := S.2.2.2.1
  have hts := S.2.2.2.2
  have hl : lv_has ls 3 [(0, .ref (B 0)), (1, .int a), (2, .int b)] := hl
  have w0 := hts (.fieldLink RX11 156 "MinimaRoomModel" "now" "I") (by decide +kernel)
  have iX11 : ∀ w ∈ u_ws RX11 TX11 11, w ∈ wsX11_isNoTime := by decide +kernel
  have hI := hM.1
  have hgb := hI.1.1
  have hg0 := hI.1.2.1
  have hg1 := hI.1.2.2.1
  have hg3 := hI.1.2.2.2.1
  have hg4 := hI.1.2.2.2.2.1
  have hg5 := hI.1.2.2.2.2.2
  refine lv_iload_n hx hb dX11_isNoTime_0 rfl (lv_at hl 1 rfl) ?_
  refine lv_aload_n hx hb dX11_isNoTime_1 rfl (lv_at hl 0 rfl) ?_
  refine rd_get (own := RX11) (x := .int (nI (g 0))) S hG.1 iX11 (mP_0 hM) 1 rfl (by decide) w0 rfl dX11_isNoTime_2 ?_
  refine lv_sipush (v := 399) hx hb dX11_isNoTime_5 (by decide) ?_
  refine rd_S (As := [.int a, .int (nI (g 0)), .int 399]) (rest := []) (v := some (.int (b2i (inB a (nI (g 0)) 399 = true)))) S hG (c_X11_isIn l G H a (nI (g 0)) 399) gX11_isNoTime_X11_isIn rfl ⟨rfl, rfl⟩ nmX11_isIn ⟨Nat.le_of_ble_eq_true rfl, Nat.le_of_ble_eq_true rfl⟩ rfl hl.1 rfl (Nat.le_of_ble_eq_true rfl) ⟨Nat.zero_le _, Nat.zero_le _⟩ dX11_isNoTime_8 ?_
  refine W.eq (g2 := F0 mZ 11 ls [.int (b2i (inB a (nI (g 0)) 399 = true))]) rfl ?_
  refine lv_if_eq (tgt := 25) hx hb dX11_isNoTime_11 (by decide) (fun c1 => ?_) (fun c1 => ?_)
  · have c1 := b2i_z.mp c1
    refine lv_iconst (v := 1) hx hb dX11_isNoTime_25 (by decide) ?_
    refine lv_goto (tgt := 30) hx hb dX11_isNoTime_26 (by decide) ?_
    exact rd_zret S hr hlk dX11_isNoTime_30 (by first | rfl | exact nz_b2i _) (congrArg (fun z => some (Value.int z)) (by first | rfl | (simp only [mNT, b2i, c1, ne_eq, not_true_eq_false, not_false_eq_true, and_true, true_and, and_false, false_and, or_true, true_or, or_false, false_or, and_self, or_self, decide_eq_true_eq, ↓reduceIte]; done) | (simp [mNT, b2i, c1]; done) | (simp only [mNT, b2i, c1, ne_eq, not_true_eq_false, not_false_eq_true, and_true, true_and, and_false, false_and, or_true, true_or, or_false, false_or, and_self, or_self, decide_eq_true_eq, ↓reduceIte])))
  · have c1 := b2i_nz.mp c1
    refine lv_iload_n hx hb dX11_isNoTime_14 rfl (lv_at hl 2 rfl) ?_
    refine lv_iload_n hx hb dX11_isNoTime_15 rfl (lv_at hl 1 rfl) ?_
    refine lv_sipush (v := 399) hx hb dX11_isNoTime_16 (by decide) ?_
    refine rd_S (As := [.int b, .int a, .int 399]) (rest := []) (v := some (.int (b2i (inB b a 399 = true)))) S hG (c_X11_isIn l G H b a 399) gX11_isNoTime_X11_isIn rfl ⟨rfl, rfl⟩ nmX11_isIn ⟨Nat.le_of_ble_eq_true rfl, Nat.le_of_ble_eq_true rfl⟩ rfl hl.1 rfl (Nat.le_of_ble_eq_true rfl) ⟨Nat.zero_le _, Nat.zero_le _⟩ dX11_isNoTime_19 ?_
    refine W.eq (g2 := F0 mZ 22 ls [.int (b2i (inB b a 399 = true))]) rfl ?_
    refine lv_if_ne (tgt := 29) hx hb dX11_isNoTime_22 (by decide) (fun c2 => ?_) (fun c2 => ?_)
    · have c2 := b2i_nz.mp c2
      refine lv_iconst (v := 0) hx hb dX11_isNoTime_29 (by decide) ?_
      exact rd_zret S hr hlk dX11_isNoTime_30 (by first | rfl | exact nz_b2i _) (congrArg (fun z => some (Value.int z)) (by first | rfl | (simp only [mNT, b2i, c1, c2, ne_eq, not_true_eq_false, not_false_eq_true, and_true, true_and, and_false, false_and, or_true, true_or, or_false, false_or, and_self, or_self, decide_eq_true_eq, ↓reduceIte]; done) | (simp [mNT, b2i, c1, c2]; done) | (simp only [mNT, b2i, c1, c2, ne_eq, not_true_eq_false, not_false_eq_true, and_true, true_and, and_false, false_and, or_true, true_or, or_false, false_or, and_self, or_self, decide_eq_true_eq, ↓reduceIte])))
    · have c2 := b2i_z.mp c2
      refine lv_iconst (v := 1) hx hb dX11_isNoTime_25 (by decide) ?_
      refine lv_goto (tgt := 30) hx hb dX11_isNoTime_26 (by decide) ?_
      exact rd_zret S hr hlk dX11_isNoTime_30 (by first | rfl | exact nz_b2i _) (congrArg (fun z => some (Value.int z)) (by first | rfl | (simp only [mNT, b2i, c1, c2, ne_eq, not_true_eq_false, not_false_eq_true, and_true, true_and, and_false, false_and, or_true, true_or, or_false, false_or, and_self, or_self, decide_eq_true_eq, ↓reduceIte]; done) | (simp [mNT, b2i, c1, c2]; done) | (simp only [mNT, b2i, c1, c2, ne_eq, not_true_eq_false, not_false_eq_true, and_true, true_and, and_false, false_and, or_true, true_or, or_false, false_or, and_self, or_self, decide_eq_true_eq, ↓reduceIte])))

theorem nmX11_ofObstacleNow : nmV yX11_ofObstacleNow RX11 2 := by decide +kernel

set_option maxHeartbeats 1000000 in
set_option maxRecDepth 100000 in
theorem c_X11_ofObstacleNow (l : Launch) (G : GT) (B : Nat → Nat) (th : Int32) (mc : Nat → Int32) (cp : Nat → Nat) (f : Nat → Nat → Int32) (g : Nat → Nat) (H : Heap) (hM : MP G B th mc cp f g H) (i : Nat) (w : Int32) (hi : i < g 1) : RdV l G H yX11_ofObstacleNow wsX11_ofObstacleNow { frames := 3, cells := 0, slots := 0, locals := 64 } [.ref (B 0), .int (nI i), .int w] (some (.int (mOb f i w))) := by
  refine rd_of (cc := cX11_ofObstacleNow) (maxL := 4) (ret := (some .int)) (by decide) rfl (Nat.le_of_ble_eq_true rfl) ?_
  intro pZ eZ sZ mZ bZ meZ cZ ls S hr hlk hl hHs hG
  have S : CallFix pZ mZ cZ cX11_ofObstacleNow 4 sZ _ wsX11_ofObstacleNow RX11 := S
  have hx := S.1
  have hb := S.2.1
  have hown := S.2.2.2.1
  have hts := S.2.2.2.2
  have hl : lv_has ls 4 [(0, .ref (B 0)), (1, .int (nI i)), (2, .int w)] := hl
  have w0 := hts (.fieldLink RX11 10 "MinimaRoomModel" "obstacles" "Ljava/util/ArrayList;") (by decide +kernel)
  have w1 := hts (.classLink RX11 75 "MinimaRoomModel$Obstacle") (by decide +kernel)
  have w2 := hts (.fieldLink RX11 155 "MinimaRoomModel$Obstacle" "to" "I") (by decide +kernel)
  have w3 := hts (.fieldLink RX11 159 "MinimaRoomModel$Obstacle" "from" "I") (by decide +kernel)
  have w4 := hts (.fieldLink RX11 201 "MinimaRoomModel$Obstacle" "top" "I") (by decide +kernel)
  have w5 := hts (.fieldLink RX11 198 "MinimaRoomModel$Obstacle" "y" "I") (by decide +kernel)
  have w6 := hts (.fieldLink RX11 74 "MinimaRoomModel$Obstacle" "x" "I") (by decide +kernel)
  have iX11 : ∀ w ∈ u_ws RX11 TX11 11, w ∈ wsX11_ofObstacleNow := by decide +kernel
  have iX9 : ∀ w ∈ u_ws RX9 TX9 5, w ∈ wsX11_ofObstacleNow := by decide +kernel
  have hI := hM.1
  have hgb := hI.1.1
  have hg0 := hI.1.2.1
  have hg1 := hI.1.2.2.1
  have hg3 := hI.1.2.2.2.1
  have hg4 := hI.1.2.2.2.2.1
  have hg5 := hI.1.2.2.2.2.2
  refine lv_aload_n hx hb dX11_ofObstacleNow_0 rfl (lv_at hl 0 rfl) ?_
  refine rd_get (own := RX11) (x := .ref (B 5)) S hG.1 iX11 (mP_0 hM) 4 rfl (by decide) w0 rfl dX11_ofObstacleNow_1 ?_
  refine lv_iload_n hx hb dX11_ofObstacleNow_4 rfl (lv_at hl 1 rfl) ?_
  refine rd_V (As := [.int (nI i)]) (rest := []) (v := some (.ref (B (20 + i)))) S hG (c_Jx4a65c_get_915e3 l G H (B 5) (eA G B cp 5 8) (mc 5) (g 1) (cp 5) (lsE B 20 (g 1)) (mP_5 hM) (mP_e5 hM (by omega)) hM.1.2.1.1 (hM.1.2.1.2.2.2.2 _) i (B (20 + i)) (by omega) (lsE_at (by omega))) gX11_ofObstacleNow_Jx4a65c_get_915e3 rfl ⟨rfl, rfl⟩ nmJx4a65c_get_915e3 ⟨Nat.le_of_ble_eq_true rfl, Nat.le_of_ble_eq_true rfl⟩ (rd_rcv hG.1 (mP_5 hM) rfl) rfl hl.1 rfl (Nat.le_of_ble_eq_true rfl) ⟨Nat.zero_le _, Nat.zero_le _⟩ dX11_ofObstacleNow_5 ?_
  refine W.eq (g2 := F0 mZ 8 ls [.ref (B (20 + i))]) rfl ?_
  refine rd_castS S hG.1 (mP_ob hM (i := i) (by omega)) rfl rfl w1 dX11_ofObstacleNow_8 ?_
  refine lv_astore_n (lv' := [(3, .ref (B (20 + i))), (0, .ref (B 0)), (1, .int (nI i)), (2, .int w)]) hx hb dX11_ofObstacleNow_11 rfl hl (by decide) rfl (fun ls hl => ?_)
  refine lv_iload_n hx hb dX11_ofObstacleNow_12 rfl (lv_at hl 3 rfl) ?_
  refine lv_if_ne (tgt := 23) hx hb dX11_ofObstacleNow_13 (by decide) (fun c1 => ?_) (fun c1 => ?_)
  · refine lv_iload_n hx hb dX11_ofObstacleNow_23 rfl (lv_at hl 3 rfl) ?_
    refine lv_iconst (v := 1) hx hb dX11_ofObstacleNow_24 (by decide) ?_
    refine lv_icmp_ne (tgt := 35) hx hb dX11_ofObstacleNow_25 (by decide) (fun c2 => ?_) (fun c2 => ?_)
    · refine lv_iload_n hx hb dX11_ofObstacleNow_35 rfl (lv_at hl 3 rfl) ?_
      refine lv_iconst (v := 2) hx hb dX11_ofObstacleNow_36 (by decide) ?_
      refine lv_icmp_ne (tgt := 47) hx hb dX11_ofObstacleNow_37 (by decide) (fun c3 => ?_) (fun c3 => ?_)
      · refine lv_iload_n hx hb dX11_ofObstacleNow_47 rfl (lv_at hl 3 rfl) ?_
        refine lv_iconst (v := 3) hx hb dX11_ofObstacleNow_48 (by decide) ?_
        refine lv_icmp_ne (tgt := 59) hx hb dX11_ofObstacleNow_49 (by decide) (fun c4 => ?_) (fun c4 => ?_)
        · refine lv_aload_n hx hb dX11_ofObstacleNow_59 rfl (lv_at hl 0 rfl) ?_
          refine rd_get (own := RX11) (x := .int (f 14 i)) S hG.1 iX9 (mP_ob hM (i := i) (by omega)) 4 rfl (by decide) w2 rfl dX11_ofObstacleNow_60 ?_
          exact rd_iret S hr hlk dX11_ofObstacleNow_63 (congrArg (fun z => some (Value.int z)) (by first | rfl | (simp only [mOb, c1, c2, c3, c4, ne_eq, not_true_eq_false, not_false_eq_true, and_true, true_and, and_false, false_and, or_true, true_or, or_false, false_or, and_self, or_self, decide_eq_true_eq, ↓reduceIte]; done) | (simp [mOb, c1, c2, c3, c4]; done) | (simp only [mOb, c1, c2, c3, c4, ne_eq, not_true_eq_false, not_false_eq_true, and_true, true_and, and_false, false_and, or_true, true_or, or_false, false_or, and_self, or_self, decide_eq_true_eq, ↓reduceIte])))
        · refine lv_aload_n hx hb dX11_ofObstacleNow_52 rfl (lv_at hl 0 rfl) ?_
          refine rd_get (own := RX11) (x := .int (f 13 i)) S hG.1 iX9 (mP_ob hM (i := i) (by omega)) 3 rfl (by decide) w3 rfl dX11_ofObstacleNow_53 ?_
          refine lv_goto (tgt := 63) hx hb dX11_ofObstacleNow_56 (by decide) ?_
          exact rd_iret S hr hlk dX11_ofObstacleNow_63 (congrArg (fun z => some (Value.int z)) (by first | rfl | (simp only [mOb, c1, c2, c3, c4, ne_eq, not_true_eq_false, not_false_eq_true, and_true, true_and, and_false, false_and, or_true, true_or, or_false, false_or, and_self, or_self, decide_eq_true_eq, ↓reduceIte]; done) | (simp [mOb, c1, c2, c3, c4]; done) | (simp only [mOb, c1, c2, c3, c4, ne_eq, not_true_eq_false, not_false_eq_true, and_true, true_and, and_false, false_and, or_true, true_or, or_false, false_or, and_self, or_self, decide_eq_true_eq, ↓reduceIte])))
      · refine lv_aload_n hx hb dX11_ofObstacleNow_40 rfl (lv_at hl 0 rfl) ?_
        refine rd_get (own := RX11) (x := .int (f 12 i)) S hG.1 iX9 (mP_ob hM (i := i) (by omega)) 2 rfl (by decide) w4 rfl dX11_ofObstacleNow_41 ?_
        refine lv_goto (tgt := 63) hx hb dX11_ofObstacleNow_44 (by decide) ?_
        exact rd_iret S hr hlk dX11_ofObstacleNow_63 (congrArg (fun z => some (Value.int z)) (by first | rfl | (simp only [mOb, c1, c2, c3, ne_eq, not_true_eq_false, not_false_eq_true, and_true, true_and, and_false, false_and, or_true, true_or, or_false, false_or, and_self, or_self, decide_eq_true_eq, ↓reduceIte]; done) | (simp [mOb, c1, c2, c3]; done) | (simp only [mOb, c1, c2, c3, ne_eq, not_true_eq_false, not_false_eq_true, and_true, true_and, and_false, false_and, or_true, true_or, or_false, false_or, and_self, or_self, decide_eq_true_eq, ↓reduceIte])))
    · refine lv_aload_n hx hb dX11_ofObstacleNow_28 rfl (lv_at hl 0 rfl) ?_
      refine rd_get (own := RX11) (x := .int (f 11 i)) S hG.1 iX9 (mP_ob hM (i := i) (by omega)) 1 rfl (by decide) w5 rfl dX11_ofObstacleNow_29 ?_
      refine lv_goto (tgt := 63) hx hb dX11_ofObstacleNow_32 (by decide) ?_
      exact rd_iret S hr hlk dX11_ofObstacleNow_63 (congrArg (fun z => some (Value.int z)) (by first | rfl | (simp only [mOb, c1, c2, ne_eq, not_true_eq_false, not_false_eq_true, and_true, true_and, and_false, false_and, or_true, true_or, or_false, false_or, and_self, or_self, decide_eq_true_eq, ↓reduceIte]; done) | (simp [mOb, c1, c2]; done) | (simp only [mOb, c1, c2, ne_eq, not_true_eq_false, not_false_eq_true, and_true, true_and, and_false, false_and, or_true, true_or, or_false, false_or, and_self, or_self, decide_eq_true_eq, ↓reduceIte])))
  · refine lv_aload_n hx hb dX11_ofObstacleNow_16 rfl (lv_at hl 0 rfl) ?_
    refine rd_get (own := RX11) (x := .int (f 10 i)) S hG.1 iX9 (mP_ob hM (i := i) (by omega)) 0 rfl (by decide) w6 rfl dX11_ofObstacleNow_17 ?_
    refine lv_goto (tgt := 63) hx hb dX11_ofObstacleNow_20 (by decide) ?_
    exact rd_iret S hr hlk dX11_ofObstacleNow_63 (congrArg (fun z => some (Value.int z)) (by first | rfl | (simp only [mOb, c1, ne_eq, not_true_eq_false, not_false_eq_true, and_true, true_and, and_false, false_and, or_true, true_or, or_false, false_or, and_self, or_self, decide_eq_true_eq, ↓reduceIte]; done) | (simp [mOb, c1]; done) | (simp only [mOb, c1, ne_eq, not_true_eq_false, not_false_eq_true, and_true, true_and, and_false, false_and, or_true, true_or, or_false, false_or, and_self, or_self, decide_eq_true_eq, ↓reduceIte])))

theorem nmX11_ofNoticeNow : nmV yX11_ofNoticeNow RX11 2 := by decide +kernel

set_option maxHeartbeats 1000000 in
set_option maxRecDepth 100000 in
theorem c_X11_ofNoticeNow (l : Launch) (G : GT) (B : Nat → Nat) (th : Int32) (mc : Nat → Int32) (cp : Nat → Nat) (f : Nat → Nat → Int32) (g : Nat → Nat) (H : Heap) (hM : MP G B th mc cp f g H) (i : Nat) (w : Int32) (hi : i < g 5) : RdV l G H yX11_ofNoticeNow wsX11_ofNoticeNow { frames := 4, cells := 0, slots := 0, locals := 89 } [.ref (B 0), .int (nI i), .int w] (some (.int (mOn f g i w))) := by
  refine rd_of (cc := cX11_ofNoticeNow) (maxL := 4) (ret := (some .int)) (by decide) rfl (Nat.le_of_ble_eq_true rfl) ?_
  intro pZ eZ sZ mZ bZ meZ cZ ls S hr hlk hl hHs hG
  have S : CallFix pZ mZ cZ cX11_ofNoticeNow 4 sZ _ wsX11_ofNoticeNow RX11 := S
  have hx := S.1
  have hb := S.2.1
  have hown := S.2.2.2.1
  have hts := S.2.2.2.2
  have hl : lv_has ls 4 [(0, .ref (B 0)), (1, .int (nI i)), (2, .int w)] := hl
  have w0 := hts (.fieldLink RX11 26 "MinimaRoomModel" "notices" "Ljava/util/ArrayList;") (by decide +kernel)
  have w1 := hts (.classLink RX11 102 "MinimaRoomModel$Notice") (by decide +kernel)
  have w2 := hts (.fieldLink RX11 104 "MinimaRoomModel$Notice" "kind" "I") (by decide +kernel)
  have w3 := hts (.fieldLink RX11 113 "MinimaRoomModel$Notice" "of" "I") (by decide +kernel)
  have w4 := hts (.fieldLink RX11 119 "MinimaRoomModel$Notice" "by" "I") (by decide +kernel)
  have w5 := hts (.fieldLink RX11 107 "MinimaRoomModel$Notice" "from" "I") (by decide +kernel)
  have w6 := hts (.fieldLink RX11 110 "MinimaRoomModel$Notice" "to" "I") (by decide +kernel)
  have w7 := hts (.fieldLink RX11 156 "MinimaRoomModel" "now" "I") (by decide +kernel)
  have iX11 : ∀ w ∈ u_ws RX11 TX11 11, w ∈ wsX11_ofNoticeNow := by decide +kernel
  have iX8 : ∀ w ∈ u_ws RX8 TX8 5, w ∈ wsX11_ofNoticeNow := by decide +kernel
  have hI := hM.1
  have hgb := hI.1.1
  have hg0 := hI.1.2.1
  have hg1 := hI.1.2.2.1
  have hg3 := hI.1.2.2.2.1
  have hg4 := hI.1.2.2.2.2.1
  have hg5 := hI.1.2.2.2.2.2
  refine lv_aload_n hx hb dX11_ofNoticeNow_0 rfl (lv_at hl 0 rfl) ?_
  refine rd_get (own := RX11) (x := .ref (B 7)) S hG.1 iX11 (mP_0 hM) 8 rfl (by decide) w0 rfl dX11_ofNoticeNow_1 ?_
  refine lv_iload_n hx hb dX11_ofNoticeNow_4 rfl (lv_at hl 1 rfl) ?_
  refine rd_V (As := [.int (nI i)]) (rest := []) (v := some (.ref (B (200 + i)))) S hG (c_Jx4a65c_get_915e3 l G H (B 7) (eA G B cp 7 10) (mc 7) (g 5) (cp 7) (lsE B 200 (g 5)) (mP_7 hM) (mP_e7 hM (by omega)) hM.1.2.1.2.2.1 (hM.1.2.1.2.2.2.2 _) i (B (200 + i)) (by omega) (lsE_at (by omega))) gX11_ofNoticeNow_Jx4a65c_get_915e3 rfl ⟨rfl, rfl⟩ nmJx4a65c_get_915e3 ⟨Nat.le_of_ble_eq_true rfl, Nat.le_of_ble_eq_true rfl⟩ (rd_rcv hG.1 (mP_7 hM) rfl) rfl hl.1 rfl (Nat.le_of_ble_eq_true rfl) ⟨Nat.zero_le _, Nat.zero_le _⟩ dX11_ofNoticeNow_5 ?_
  refine W.eq (g2 := F0 mZ 8 ls [.ref (B (200 + i))]) rfl ?_
  refine rd_castS S hG.1 (mP_no hM (i := i) (by omega)) rfl rfl w1 dX11_ofNoticeNow_8 ?_
  refine lv_astore_n (lv' := [(3, .ref (B (200 + i))), (0, .ref (B 0)), (1, .int (nI i)), (2, .int w)]) hx hb dX11_ofNoticeNow_11 rfl hl (by decide) rfl (fun ls hl => ?_)
  refine lv_iload_n hx hb dX11_ofNoticeNow_12 rfl (lv_at hl 3 rfl) ?_
  by_cases c1 : w = 0
  · refine lv_tableIn (off := 35) (tgt := 48) hx hb dX11_ofNoticeNow_13 (by rw [c1]; decide) (by rw [c1]; decide) (by rw [c1]; rfl) (by decide) ?_
    refine lv_aload_n hx hb dX11_ofNoticeNow_48 rfl (lv_at hl 0 rfl) ?_
    refine rd_get (own := RX11) (x := .int (f 22 i)) S hG.1 iX8 (mP_no hM (i := i) (by omega)) 0 rfl (by decide) w2 rfl dX11_ofNoticeNow_49 ?_
    exact rd_iret S hr hlk dX11_ofNoticeNow_52 (congrArg (fun z => some (Value.int z)) (by first | rfl | (simp only [mOn, c1, ne_eq, not_true_eq_false, not_false_eq_true, and_true, true_and, and_false, false_and, or_true, true_or, or_false, false_or, and_self, or_self, decide_eq_true_eq, ↓reduceIte]; done) | (simp [mOn, c1]; done) | (simp only [mOn, c1, ne_eq, not_true_eq_false, not_false_eq_true, and_true, true_and, and_false, false_and, or_true, true_or, or_false, false_or, and_self, or_self, decide_eq_true_eq, ↓reduceIte])))
  by_cases c2 : w = 1
  · refine lv_tableIn (off := 40) (tgt := 53) hx hb dX11_ofNoticeNow_13 (by rw [c2]; decide) (by rw [c2]; decide) (by rw [c2]; rfl) (by decide) ?_
    refine lv_aload_n hx hb dX11_ofNoticeNow_53 rfl (lv_at hl 0 rfl) ?_
    refine rd_get (own := RX11) (x := .int (f 23 i)) S hG.1 iX8 (mP_no hM (i := i) (by omega)) 1 rfl (by decide) w3 rfl dX11_ofNoticeNow_54 ?_
    exact rd_iret S hr hlk dX11_ofNoticeNow_57 (congrArg (fun z => some (Value.int z)) (by first | rfl | (simp only [mOn, c1, c2, ne_eq, not_true_eq_false, not_false_eq_true, and_true, true_and, and_false, false_and, or_true, true_or, or_false, false_or, and_self, or_self, decide_eq_true_eq, ↓reduceIte]; done) | (simp [mOn, c1, c2]; done) | (simp only [mOn, c1, c2, ne_eq, not_true_eq_false, not_false_eq_true, and_true, true_and, and_false, false_and, or_true, true_or, or_false, false_or, and_self, or_self, decide_eq_true_eq, ↓reduceIte])))
  by_cases c3 : w = 2
  · refine lv_tableIn (off := 45) (tgt := 58) hx hb dX11_ofNoticeNow_13 (by rw [c3]; decide) (by rw [c3]; decide) (by rw [c3]; rfl) (by decide) ?_
    refine lv_aload_n hx hb dX11_ofNoticeNow_58 rfl (lv_at hl 0 rfl) ?_
    refine rd_get (own := RX11) (x := .int (f 24 i)) S hG.1 iX8 (mP_no hM (i := i) (by omega)) 2 rfl (by decide) w4 rfl dX11_ofNoticeNow_59 ?_
    exact rd_iret S hr hlk dX11_ofNoticeNow_62 (congrArg (fun z => some (Value.int z)) (by first | rfl | (simp only [mOn, c1, c2, c3, ne_eq, not_true_eq_false, not_false_eq_true, and_true, true_and, and_false, false_and, or_true, true_or, or_false, false_or, and_self, or_self, decide_eq_true_eq, ↓reduceIte]; done) | (simp [mOn, c1, c2, c3]; done) | (simp only [mOn, c1, c2, c3, ne_eq, not_true_eq_false, not_false_eq_true, and_true, true_and, and_false, false_and, or_true, true_or, or_false, false_or, and_self, or_self, decide_eq_true_eq, ↓reduceIte])))
  by_cases c4 : w = 3
  · refine lv_tableIn (off := 50) (tgt := 63) hx hb dX11_ofNoticeNow_13 (by rw [c4]; decide) (by rw [c4]; decide) (by rw [c4]; rfl) (by decide) ?_
    refine lv_aload_n hx hb dX11_ofNoticeNow_63 rfl (lv_at hl 0 rfl) ?_
    refine rd_get (own := RX11) (x := .int (f 25 i)) S hG.1 iX8 (mP_no hM (i := i) (by omega)) 3 rfl (by decide) w5 rfl dX11_ofNoticeNow_64 ?_
    exact rd_iret S hr hlk dX11_ofNoticeNow_67 (congrArg (fun z => some (Value.int z)) (by first | rfl | (simp only [mOn, c1, c2, c3, c4, ne_eq, not_true_eq_false, not_false_eq_true, and_true, true_and, and_false, false_and, or_true, true_or, or_false, false_or, and_self, or_self, decide_eq_true_eq, ↓reduceIte]; done) | (simp [mOn, c1, c2, c3, c4]; done) | (simp only [mOn, c1, c2, c3, c4, ne_eq, not_true_eq_false, not_false_eq_true, and_true, true_and, and_false, false_and, or_true, true_or, or_false, false_or, and_self, or_self, decide_eq_true_eq, ↓reduceIte])))
  by_cases c5 : w = 4
  · refine lv_tableIn (off := 55) (tgt := 68) hx hb dX11_ofNoticeNow_13 (by rw [c5]; decide) (by rw [c5]; decide) (by rw [c5]; rfl) (by decide) ?_
    refine lv_aload_n hx hb dX11_ofNoticeNow_68 rfl (lv_at hl 0 rfl) ?_
    refine rd_get (own := RX11) (x := .int (f 26 i)) S hG.1 iX8 (mP_no hM (i := i) (by omega)) 4 rfl (by decide) w6 rfl dX11_ofNoticeNow_69 ?_
    exact rd_iret S hr hlk dX11_ofNoticeNow_72 (congrArg (fun z => some (Value.int z)) (by first | rfl | (simp only [mOn, c1, c2, c3, c4, c5, ne_eq, not_true_eq_false, not_false_eq_true, and_true, true_and, and_false, false_and, or_true, true_or, or_false, false_or, and_self, or_self, decide_eq_true_eq, ↓reduceIte]; done) | (simp [mOn, c1, c2, c3, c4, c5]; done) | (simp only [mOn, c1, c2, c3, c4, c5, ne_eq, not_true_eq_false, not_false_eq_true, and_true, true_and, and_false, false_and, or_true, true_or, or_false, false_or, and_self, or_self, decide_eq_true_eq, ↓reduceIte])))
  refine lv_tableOut (tgt := 73) hx hb dX11_ofNoticeNow_13 (by have a0 := lv_neT c1 (a := 0) (by decide); have a1 := lv_neT c2 (a := 1) (by decide); have a2 := lv_neT c3 (a := 2) (by decide); have a3 := lv_neT c4 (a := 3) (by decide); have a4 := lv_neT c5 (a := 4) (by decide); omega) (by decide) ?_
  refine lv_aload_n hx hb dX11_ofNoticeNow_73 rfl (lv_at hl 0 rfl) ?_
  refine rd_get (own := RX11) (x := .int (f 22 i)) S hG.1 iX8 (mP_no hM (i := i) (by omega)) 0 rfl (by decide) w2 rfl dX11_ofNoticeNow_74 ?_
  refine lv_iconst (v := 3) hx hb dX11_ofNoticeNow_77 (by decide) ?_
  refine lv_icmp_eq (tgt := 100) hx hb dX11_ofNoticeNow_78 (by decide) (fun c6 => ?_) (fun c6 => ?_)
  · refine lv_iconst (v := 1) hx hb dX11_ofNoticeNow_100 (by decide) ?_
    refine lv_goto (tgt := 105) hx hb dX11_ofNoticeNow_101 (by decide) ?_
    exact rd_iret S hr hlk dX11_ofNoticeNow_105 (congrArg (fun z => some (Value.int z)) (by first | rfl | (simp only [mOn, c1, c2, c3, c4, c5, c6, ne_eq, not_true_eq_false, not_false_eq_true, and_true, true_and, and_false, false_and, or_true, true_or, or_false, false_or, and_self, or_self, decide_eq_true_eq, ↓reduceIte]; done) | (simp [mOn, c1, c2, c3, c4, c5, c6]; done) | (simp only [mOn, c1, c2, c3, c4, c5, c6, ne_eq, not_true_eq_false, not_false_eq_true, and_true, true_and, and_false, false_and, or_true, true_or, or_false, false_or, and_self, or_self, decide_eq_true_eq, ↓reduceIte])))
  · refine lv_aload_n hx hb dX11_ofNoticeNow_81 rfl (lv_at hl 1 rfl) ?_
    refine lv_iload_n hx hb dX11_ofNoticeNow_82 rfl (lv_at hl 2 rfl) ?_
    refine lv_aload_n hx hb dX11_ofNoticeNow_83 rfl (lv_at hl 1 rfl) ?_
    refine rd_get (own := RX11) (x := .int (nI (g 0))) S hG.1 iX11 (mP_0 hM) 1 rfl (by decide) w7 rfl dX11_ofNoticeNow_84 ?_
    refine lv_aload_n hx hb dX11_ofNoticeNow_87 rfl (lv_at hl 1 rfl) ?_
    refine rd_get (own := RX11) (x := .ref (B 7)) S hG.1 iX11 (mP_0 hM) 8 rfl (by decide) w0 rfl dX11_ofNoticeNow_88 ?_
    refine rd_V (As := []) (rest := [.int (nI (g 0)), .int (nI i), .ref (B 0)]) (v := some (.int (nI (g 5)))) S hG (c_Jx4a65c_size_8abf5 l G H (B 7) (eA G B cp 7 10) (mc 7) (nI (g 5)) (mP_7 hM)) gX11_ofNoticeNow_Jx4a65c_size_8abf5 rfl ⟨rfl, rfl⟩ nmJx4a65c_size_8abf5 ⟨Nat.le_of_ble_eq_true rfl, Nat.le_of_ble_eq_true rfl⟩ (rd_rcv hG.1 (mP_7 hM) rfl) rfl hl.1 rfl (Nat.le_of_ble_eq_true rfl) ⟨Nat.zero_le _, Nat.zero_le _⟩ dX11_ofNoticeNow_91 ?_
    refine W.eq (g2 := F0 mZ 94 ls [.int (nI (g 5)), .int (nI (g 0)), .int (nI i), .ref (B 0)]) rfl ?_
    refine rd_V (As := [.int (nI i), .int (nI (g 0)), .int (nI (g 5))]) (rest := []) (v := some (.int (b2i (mCt f i (nI (g 0)) (g 5) = true)))) S hG (c_X11_counts l G B th mc cp f g H hM i (nI (g 0)) (g 5) (by omega) (by omega)) gX11_ofNoticeNow_X11_counts rfl ⟨rfl, rfl⟩ nmX11_counts ⟨Nat.le_of_ble_eq_true rfl, Nat.le_of_ble_eq_true rfl⟩ (rd_rcv hG.1 (mP_0 hM) rfl) rfl hl.1 rfl (Nat.le_of_ble_eq_true rfl) ⟨Nat.zero_le _, Nat.zero_le _⟩ dX11_ofNoticeNow_94 ?_
    refine W.eq (g2 := F0 mZ 97 ls [.int (b2i (mCt f i (nI (g 0)) (g 5) = true))]) rfl ?_
    refine lv_if_eq (tgt := 104) hx hb dX11_ofNoticeNow_97 (by decide) (fun c7 => ?_) (fun c7 => ?_)
    · have c7 := b2i_z.mp c7
      refine lv_iconst (v := 0) hx hb dX11_ofNoticeNow_104 (by decide) ?_
      exact rd_iret S hr hlk dX11_ofNoticeNow_105 (congrArg (fun z => some (Value.int z)) (by first | rfl | (simp only [mOn, c1, c2, c3, c4, c5, c6, c7, ne_eq, not_true_eq_false, not_false_eq_true, and_true, true_and, and_false, false_and, or_true, true_or, or_false, false_or, and_self, or_self, decide_eq_true_eq, ↓reduceIte]; done) | (simp [mOn, c1, c2, c3, c4, c5, c6, c7]; done) | (simp only [mOn, c1, c2, c3, c4, c5, c6, c7, ne_eq, not_true_eq_false, not_false_eq_true, and_true, true_and, and_false, false_and, or_true, true_or, or_false, false_or, and_self, or_self, decide_eq_true_eq, ↓reduceIte])))
    · have c7 := b2i_nz.mp c7
      refine lv_iconst (v := 1) hx hb dX11_ofNoticeNow_100 (by decide) ?_
      refine lv_goto (tgt := 105) hx hb dX11_ofNoticeNow_101 (by decide) ?_
      exact rd_iret S hr hlk dX11_ofNoticeNow_105 (congrArg (fun z => some (Value.int z)) (by first | rfl | (simp only [mOn, c1, c2, c3, c4, c5, c6, c7, ne_eq, not_true_eq_false, not_false_eq_true, and_true, true_and, and_false, false_and, or_true, true_or, or_false, false_or, and_self, or_self, decide_eq_true_eq, ↓reduceIte]; done) | (simp [mOn, c1, c2, c3, c4, c5, c6, c7]; done) | (simp only [mOn, c1, c2, c3, c4, c5, c6, c7, ne_eq, not_true_eq_false, not_false_eq_true, and_true, true_and, and_false, false_and, or_true, true_or, or_false, false_or, and_self, or_self, decide_eq_true_eq, ↓reduceIte])))

theorem nmX11_decidesNow : nmV yX11_decidesNow RX11 2 := by decide +kernel

set_option maxHeartbeats 1000000 in
set_option maxRecDepth 100000 in
theorem c_X11_decidesNow (l : Launch) (G : GT) (B : Nat → Nat) (th : Int32) (mc : Nat → Int32) (cp : Nat → Nat) (f : Nat → Nat → Int32) (g : Nat → Nat) (H : Heap) (hM : MP G B th mc cp f g H) (i : Nat) (d : Int32) (hi : i < g 3) : RdV l G H yX11_decidesNow wsX11_decidesNow { frames := 6, cells := 0, slots := 0, locals := 142 } [.ref (B 0), .int (nI i), .int d] (some (.int (mDc f g i d))) := by
  refine rd_of (cc := cX11_decidesNow) (maxL := 7) (ret := (some .int)) (by decide) rfl (Nat.le_of_ble_eq_true rfl) ?_
  intro pZ eZ sZ mZ bZ meZ cZ ls S hr hlk hl hHs hG
  have S : CallFix pZ mZ cZ cX11_decidesNow 7 sZ _ wsX11_decidesNow RX11 := S
  have hx := S.1
  have hb := S.2.1
  have hown := S.2.2.2.1
  have hts := S.2.2.2.2
  have hl : lv_has ls 7 [(0, .ref (B 0)), (1, .int (nI i)), (2, .int d)] := hl
  have w0 := hts (.fieldLink RX11 10 "MinimaRoomModel" "obstacles" "Ljava/util/ArrayList;") (by decide +kernel)
  have iX11 : ∀ w ∈ u_ws RX11 TX11 11, w ∈ wsX11_decidesNow := by decide +kernel
  have hI := hM.1
  have hgb := hI.1.1
  have hg0 := hI.1.2.1
  have hg1 := hI.1.2.2.1
  have hg3 := hI.1.2.2.2.1
  have hg4 := hI.1.2.2.2.2.1
  have hg5 := hI.1.2.2.2.2.2
  refine lv_iconst (v := (-1)) hx hb dX11_decidesNow_0 (by decide) ?_
  refine lv_istore_n (lv' := [(3, .int (-1)), (0, .ref (B 0)), (1, .int (nI i)), (2, .int d)]) hx hb dX11_decidesNow_1 rfl hl (by decide) rfl (fun ls hl => ?_)
  refine lv_aload_n hx hb dX11_decidesNow_2 rfl (lv_at hl 1 rfl) ?_
  refine lv_iload_n hx hb dX11_decidesNow_3 rfl (lv_at hl 2 rfl) ?_
  refine lv_iload_n hx hb dX11_decidesNow_4 rfl (lv_at hl 3 rfl) ?_
  refine rd_V (As := [.int (nI i), .int d]) (rest := []) (v := some (.int (mLH f g i d (-1)))) S hG (c_X11_demandedNow_ l G B th mc cp f g H hM i d (by omega)) gX11_decidesNow_X11_demandedNow_ rfl ⟨rfl, rfl⟩ nmX11_demandedNow_ ⟨Nat.le_of_ble_eq_true rfl, Nat.le_of_ble_eq_true rfl⟩ (rd_rcv hG.1 (mP_0 hM) rfl) rfl hl.1 rfl (Nat.le_of_ble_eq_true rfl) ⟨Nat.zero_le _, Nat.zero_le _⟩ dX11_decidesNow_5 ?_
  refine W.eq (g2 := F0 mZ 8 ls [.int (mLH f g i d (-1))]) rfl ?_
  refine lv_topi (fun x1 ex1 => ?_)
  refine lv_istore (lv' := [(4, .int x1), (3, .int (-1)), (0, .ref (B 0)), (1, .int (nI i)), (2, .int d)]) hx hb dX11_decidesNow_8 hl (by decide) rfl (fun ls hl => ?_)
  refine lv_iconst (v := 0) hx hb dX11_decidesNow_10 (by decide) ?_
  refine lv_istore (lv' := [(5, .int 0), (4, .int x1), (3, .int (-1)), (0, .ref (B 0)), (1, .int (nI i)), (2, .int d)]) hx hb dX11_decidesNow_11 hl (by decide) rfl (fun ls hl => ?_)
  have loop13 : ∀ (n13 k13 : Nat), k13 + n13 = g 1 → ∀ (z13_4 : Int32), z13_4 = (fl k13 (mdF f g i d) (mLH f g i d (-1), -1)).1 → ∀ (z13_3 : Int32), z13_3 = (fl k13 (mdF f g i d) (mLH f g i d (-1), -1)).2 → ∀ (ls : Array Slot), lv_has ls 7 [(5, .int (nI k13)), (4, .int z13_4), (3, .int z13_3), (0, .ref (B 0)), (1, .int (nI i)), (2, .int d)] → W pZ l eZ ({ frames := 6, cells := 0, slots := 0, locals := 142 } : Room) sZ mZ ([.ref (B 0), .int (nI i), .int d] : List Value).toArray bZ meZ cZ H [] 0 0 (rd_Q bZ H [.ref (B 0), .int (nI i), .int d] sZ (some (.int (mDc f g i d)))) (F0 mZ 13 ls []) := by
    intro n13
    induction n13 with
    | zero =>
      intro k13 hk13 z13_4 ez13_4 z13_3 ez13_3 ls hl
      obtain rfl : k13 = g 1 := by omega
      refine lv_iload hx hb dX11_decidesNow_13 (lv_at hl 0 rfl) ?_
      refine lv_aload_n hx hb dX11_decidesNow_15 rfl (lv_at hl 3 rfl) ?_
      refine rd_get (own := RX11) (x := .ref (B 5)) S hG.1 iX11 (mP_0 hM) 4 rfl (by decide) w0 rfl dX11_decidesNow_16 ?_
      refine rd_V (As := []) (rest := [.int (nI (g 1))]) (v := some (.int (nI (g 1)))) S hG (c_Jx4a65c_size_8abf5 l G H (B 5) (eA G B cp 5 8) (mc 5) (nI (g 1)) (mP_5 hM)) gX11_decidesNow_Jx4a65c_size_8abf5 rfl ⟨rfl, rfl⟩ nmJx4a65c_size_8abf5 ⟨Nat.le_of_ble_eq_true rfl, Nat.le_of_ble_eq_true rfl⟩ (rd_rcv hG.1 (mP_5 hM) rfl) rfl hl.1 rfl (Nat.le_of_ble_eq_true rfl) ⟨Nat.zero_le _, Nat.zero_le _⟩ dX11_decidesNow_19 ?_
      refine W.eq (g2 := F0 mZ 22 ls [.int (nI (g 1)), .int (nI (g 1))]) rfl ?_
      refine lv_icmp_ge (tgt := 59) hx hb dX11_decidesNow_22 (by decide) (fun c2 => ?_) (fun c2 => ?_)
      · have d2 := Int32.not_lt.mpr c2
        refine lv_iload_n hx hb dX11_decidesNow_59 rfl (lv_at hl 2 rfl) ?_
        exact rd_iret S hr hlk dX11_decidesNow_60 (congrArg (fun z => some (Value.int z)) (by subst ez13_3; subst ez13_4; subst ex1; first | rfl | (simp only [mDc, mdF, c2, d2, ne_eq, not_true_eq_false, not_false_eq_true, and_true, true_and, and_false, false_and, or_true, true_or, or_false, false_or, and_self, or_self, decide_eq_true_eq, ↓reduceIte]; done) | (simp [mDc, mdF, c2, d2]; done) | (simp only [mDc, mdF, c2, d2, ne_eq, not_true_eq_false, not_false_eq_true, and_true, true_and, and_false, false_and, or_true, true_or, or_false, false_or, and_self, or_self, decide_eq_true_eq, ↓reduceIte])))
      · exact absurd (nI_le (by omega) (by omega)) c2
    | succ n13 ih13 =>
      intro k13 hk13 z13_4 ez13_4 z13_3 ez13_3 ls hl
      refine lv_iload hx hb dX11_decidesNow_13 (lv_at hl 0 rfl) ?_
      refine lv_aload_n hx hb dX11_decidesNow_15 rfl (lv_at hl 3 rfl) ?_
      refine rd_get (own := RX11) (x := .ref (B 5)) S hG.1 iX11 (mP_0 hM) 4 rfl (by decide) w0 rfl dX11_decidesNow_16 ?_
      refine rd_V (As := []) (rest := [.int (nI k13)]) (v := some (.int (nI (g 1)))) S hG (c_Jx4a65c_size_8abf5 l G H (B 5) (eA G B cp 5 8) (mc 5) (nI (g 1)) (mP_5 hM)) gX11_decidesNow_Jx4a65c_size_8abf5 rfl ⟨rfl, rfl⟩ nmJx4a65c_size_8abf5 ⟨Nat.le_of_ble_eq_true rfl, Nat.le_of_ble_eq_true rfl⟩ (rd_rcv hG.1 (mP_5 hM) rfl) rfl hl.1 rfl (Nat.le_of_ble_eq_true rfl) ⟨Nat.zero_le _, Nat.zero_le _⟩ dX11_decidesNow_19 ?_
      refine W.eq (g2 := F0 mZ 22 ls [.int (nI (g 1)), .int (nI k13)]) rfl ?_
      refine lv_icmp_ge (tgt := 59) hx hb dX11_decidesNow_22 (by decide) (fun c3 => ?_) (fun c3 => ?_)
      · exact absurd c3 (nI_ge (by omega) (by omega))
      · have d3 := Int32.not_le.mp c3
        refine lv_aload_n hx hb dX11_decidesNow_25 rfl (lv_at hl 3 rfl) ?_
        refine lv_iload_n hx hb dX11_decidesNow_26 rfl (lv_at hl 4 rfl) ?_
        refine lv_iload_n hx hb dX11_decidesNow_27 rfl (lv_at hl 5 rfl) ?_
        refine lv_iload hx hb dX11_decidesNow_28 (lv_at hl 0 rfl) ?_
        refine lv_null hx hb dX11_decidesNow_30 ?_
        refine rd_V (As := [.int (nI i), .int d, .int (nI k13), .null]) (rest := []) (v := some (.int (mLH f g i d (nI k13)))) S hG (c_X11_demandedNow_n l G B th mc cp f g H hM i d (nI k13) (by omega)) gX11_decidesNow_X11_demandedNow rfl ⟨rfl, rfl⟩ nmX11_demandedNow ⟨Nat.le_of_ble_eq_true rfl, Nat.le_of_ble_eq_true rfl⟩ (rd_rcv hG.1 (mP_0 hM) rfl) rfl hl.1 rfl (Nat.le_of_ble_eq_true rfl) ⟨Nat.zero_le _, Nat.zero_le _⟩ dX11_decidesNow_31 ?_
        refine W.eq (g2 := F0 mZ 34 ls [.int (mLH f g i d (nI k13))]) rfl ?_
        refine lv_topi (fun x4 ex4 => ?_)
        refine lv_istore (lv' := [(6, .int x4), (5, .int (nI k13)), (4, .int z13_4), (3, .int z13_3), (0, .ref (B 0)), (1, .int (nI i)), (2, .int d)]) hx hb dX11_decidesNow_34 hl (by decide) rfl (fun ls hl => ?_)
        refine lv_iload hx hb dX11_decidesNow_36 (lv_at hl 0 rfl) ?_
        refine lv_iload hx hb dX11_decidesNow_38 (lv_at hl 2 rfl) ?_
        refine lv_icmp_lt (tgt := 46) hx hb dX11_decidesNow_40 (by decide) (fun c5 => ?_) (fun c5 => ?_)
        · have d5 := Int32.not_le.mpr c5
          refine lv_iload hx hb dX11_decidesNow_46 (lv_at hl 0 rfl) ?_
          refine lv_istore (lv' := [(4, .int x4), (6, .int x4), (5, .int (nI k13)), (3, .int z13_3), (0, .ref (B 0)), (1, .int (nI i)), (2, .int d)]) hx hb dX11_decidesNow_48 hl (by decide) rfl (fun ls hl => ?_)
          refine lv_iload hx hb dX11_decidesNow_50 (lv_at hl 2 rfl) ?_
          refine lv_istore_n (lv' := [(3, .int (nI k13)), (4, .int x4), (6, .int x4), (5, .int (nI k13)), (0, .ref (B 0)), (1, .int (nI i)), (2, .int d)]) hx hb dX11_decidesNow_52 rfl hl (by decide) rfl (fun ls hl => ?_)
          refine lv_iinc (v := nI (k13 + 1)) (lv' := [(5, .int (nI (k13 + 1))), (3, .int (nI k13)), (4, .int x4), (6, .int x4), (0, .ref (B 0)), (1, .int (nI i)), (2, .int d)]) hx hb dX11_decidesNow_53 hl (k := 3) rfl (nI_inc _) (by decide) rfl (fun ls hl => ?_)
          refine lv_goto (tgt := 13) hx hb dX11_decidesNow_56 (by decide) ?_
          exact ih13 (k13 + 1) (by omega) _ (by subst ex4; subst ez13_3; subst ez13_4; subst ex1; first | rfl | (simp only [fl, mDc, mdF, c3, d3, c5, d5, ne_eq, not_true_eq_false, not_false_eq_true, and_true, true_and, and_false, false_and, or_true, true_or, or_false, false_or, and_self, or_self, decide_eq_true_eq, ↓reduceIte]; done) | (simp only [fl, mDc, mdF, c3, d3, c5, d5, ne_eq, not_true_eq_false, not_false_eq_true, and_true, true_and, and_false, false_and, or_true, true_or, or_false, false_or, and_self, or_self, decide_eq_true_eq, ↓reduceIte]; rfl) | (simp [fl, mDc, mdF, c3, d3, c5, d5]; done) | (simp only [fl, mDc, mdF, c3, d3, c5, d5, ne_eq, not_true_eq_false, not_false_eq_true, and_true, true_and, and_false, false_and, or_true, true_or, or_false, false_or, and_self, or_self, decide_eq_true_eq, ↓reduceIte])) _ (by subst ex4; subst ez13_3; subst ez13_4; subst ex1; first | rfl | (simp only [fl, mDc, mdF, c3, d3, c5, d5, ne_eq, not_true_eq_false, not_false_eq_true, and_true, true_and, and_false, false_and, or_true, true_or, or_false, false_or, and_self, or_self, decide_eq_true_eq, ↓reduceIte]; done) | (simp only [fl, mDc, mdF, c3, d3, c5, d5, ne_eq, not_true_eq_false, not_false_eq_true, and_true, true_and, and_false, false_and, or_true, true_or, or_false, false_or, and_self, or_self, decide_eq_true_eq, ↓reduceIte]; rfl) | (simp [fl, mDc, mdF, c3, d3, c5, d5]; done) | (simp only [fl, mDc, mdF, c3, d3, c5, d5, ne_eq, not_true_eq_false, not_false_eq_true, and_true, true_and, and_false, false_and, or_true, true_or, or_false, false_or, and_self, or_self, decide_eq_true_eq, ↓reduceIte])) ls (lv_sub hl [0, 2, 1, 4, 5, 6] rfl)
        · have d5 := Int32.not_lt.mp c5
          refine lv_goto (tgt := 53) hx hb dX11_decidesNow_43 (by decide) ?_
          refine lv_iinc (v := nI (k13 + 1)) (lv' := [(5, .int (nI (k13 + 1))), (6, .int x4), (4, .int z13_4), (3, .int z13_3), (0, .ref (B 0)), (1, .int (nI i)), (2, .int d)]) hx hb dX11_decidesNow_53 hl (k := 1) rfl (nI_inc _) (by decide) rfl (fun ls hl => ?_)
          refine lv_goto (tgt := 13) hx hb dX11_decidesNow_56 (by decide) ?_
          exact ih13 (k13 + 1) (by omega) _ (by subst ex4; subst ez13_3; subst ez13_4; subst ex1; first | rfl | (simp only [fl, mDc, mdF, c3, d3, c5, d5, ne_eq, not_true_eq_false, not_false_eq_true, and_true, true_and, and_false, false_and, or_true, true_or, or_false, false_or, and_self, or_self, decide_eq_true_eq, ↓reduceIte]; done) | (simp only [fl, mDc, mdF, c3, d3, c5, d5, ne_eq, not_true_eq_false, not_false_eq_true, and_true, true_and, and_false, false_and, or_true, true_or, or_false, false_or, and_self, or_self, decide_eq_true_eq, ↓reduceIte]; rfl) | (simp [fl, mDc, mdF, c3, d3, c5, d5]; done) | (simp only [fl, mDc, mdF, c3, d3, c5, d5, ne_eq, not_true_eq_false, not_false_eq_true, and_true, true_and, and_false, false_and, or_true, true_or, or_false, false_or, and_self, or_self, decide_eq_true_eq, ↓reduceIte])) _ (by subst ex4; subst ez13_3; subst ez13_4; subst ex1; first | rfl | (simp only [fl, mDc, mdF, c3, d3, c5, d5, ne_eq, not_true_eq_false, not_false_eq_true, and_true, true_and, and_false, false_and, or_true, true_or, or_false, false_or, and_self, or_self, decide_eq_true_eq, ↓reduceIte]; done) | (simp only [fl, mDc, mdF, c3, d3, c5, d5, ne_eq, not_true_eq_false, not_false_eq_true, and_true, true_and, and_false, false_and, or_true, true_or, or_false, false_or, and_self, or_self, decide_eq_true_eq, ↓reduceIte]; rfl) | (simp [fl, mDc, mdF, c3, d3, c5, d5]; done) | (simp only [fl, mDc, mdF, c3, d3, c5, d5, ne_eq, not_true_eq_false, not_false_eq_true, and_true, true_and, and_false, false_and, or_true, true_or, or_false, false_or, and_self, or_self, decide_eq_true_eq, ↓reduceIte])) ls (lv_sub hl [0, 2, 3, 4, 5, 6] rfl)
  exact loop13 (g 1) 0 (by omega) _ (by subst ex1; first | rfl | first | rfl | (simp only [fl, mDc, mdF, ne_eq, not_true_eq_false, not_false_eq_true, and_true, true_and, and_false, false_and, or_true, true_or, or_false, false_or, and_self, or_self, decide_eq_true_eq, ↓reduceIte]; done) | (simp only [fl, mDc, mdF, ne_eq, not_true_eq_false, not_false_eq_true, and_true, true_and, and_false, false_and, or_true, true_or, or_false, false_or, and_self, or_self, decide_eq_true_eq, ↓reduceIte]; rfl) | (simp [fl, mDc, mdF]; done) | (simp only [fl, mDc, mdF, ne_eq, not_true_eq_false, not_false_eq_true, and_true, true_and, and_false, false_and, or_true, true_or, or_false, false_or, and_self, or_self, decide_eq_true_eq, ↓reduceIte])) _ (by subst ex1; first | rfl | first | rfl | (simp only [fl, mDc, mdF, ne_eq, not_true_eq_false, not_false_eq_true, and_true, true_and, and_false, false_and, or_true, true_or, or_false, false_or, and_self, or_self, decide_eq_true_eq, ↓reduceIte]; done) | (simp only [fl, mDc, mdF, ne_eq, not_true_eq_false, not_false_eq_true, and_true, true_and, and_false, false_and, or_true, true_or, or_false, false_or, and_self, or_self, decide_eq_true_eq, ↓reduceIte]; rfl) | (simp [fl, mDc, mdF]; done) | (simp only [fl, mDc, mdF, ne_eq, not_true_eq_false, not_false_eq_true, and_true, true_and, and_false, false_and, or_true, true_or, or_false, false_or, and_self, or_self, decide_eq_true_eq, ↓reduceIte])) ls (lv_sub hl [0, 1, 2, 3, 4, 5] rfl)

theorem nmX11_misledNow : nmV yX11_misledNow RX11 1 := by decide +kernel

set_option maxHeartbeats 1000000 in
set_option maxRecDepth 100000 in
theorem c_X11_misledNow (l : Launch) (G : GT) (B : Nat → Nat) (th : Int32) (mc : Nat → Int32) (cp : Nat → Nat) (f : Nat → Nat → Int32) (g : Nat → Nat) (H : Heap) (hM : MP G B th mc cp f g H) (c : Nat) (hc : c < 4) (hrd : ∀ c, c < 4 → f 29 c = nI (cnt (f 29 c)) ∧ cnt (f 29 c) ≤ g 5) : RdV l G H yX11_misledNow wsX11_misledNow { frames := 6, cells := 0, slots := 0, locals := 139 } [.ref (B 0), .int (nI c)] (some (.int (mMi f g c))) := by
  refine rd_of (cc := cX11_misledNow) (maxL := 6) (ret := (some .int)) (by decide) rfl (Nat.le_of_ble_eq_true rfl) ?_
  intro pZ eZ sZ mZ bZ meZ cZ ls S hr hlk hl hHs hG
  have S : CallFix pZ mZ cZ cX11_misledNow 6 sZ _ wsX11_misledNow RX11 := S
  have hx := S.1
  have hb := S.2.1
  have hown := S.2.2.2.1
  have hts := S.2.2.2.2
  have hl : lv_has ls 6 [(0, .ref (B 0)), (1, .int (nI c))] := hl
  have w0 := hts (.fieldLink RX11 23 "MinimaRoomModel" "procedures" "Ljava/util/ArrayList;") (by decide +kernel)
  have w1 := hts (.fieldLink RX11 156 "MinimaRoomModel" "now" "I") (by decide +kernel)
  have iX11 : ∀ w ∈ u_ws RX11 TX11 11, w ∈ wsX11_misledNow := by decide +kernel
  have hI := hM.1
  have hgb := hI.1.1
  have hg0 := hI.1.2.1
  have hg1 := hI.1.2.2.1
  have hg3 := hI.1.2.2.2.1
  have hg4 := hI.1.2.2.2.2.1
  have hg5 := hI.1.2.2.2.2.2
  refine lv_iconst (v := 0) hx hb dX11_misledNow_0 (by decide) ?_
  refine lv_istore_n (lv' := [(2, .int 0), (0, .ref (B 0)), (1, .int (nI c))]) hx hb dX11_misledNow_1 rfl hl (by decide) rfl (fun ls hl => ?_)
  refine lv_iconst (v := 0) hx hb dX11_misledNow_2 (by decide) ?_
  refine lv_istore_n (lv' := [(3, .int 0), (2, .int 0), (0, .ref (B 0)), (1, .int (nI c))]) hx hb dX11_misledNow_3 rfl hl (by decide) rfl (fun ls hl => ?_)
  have loop4 : ∀ (n4 k4 : Nat), k4 + n4 = g 3 → ∀ (z4_2 : Int32), z4_2 = fl k4 (fun j s => if ¬ mBl f g c j (nI (g 0)) = -1 ∧ (mIF f g j (nI (g 0)) = -1 ∨ mBl f g c j (nI (g 0)) < mIF f g j (nI (g 0))) then s ||| (1 <<< (nI j &&& 31)) else s) 0 → ∀ (ls : Array Slot), lv_has ls 6 [(3, .int (nI k4)), (2, .int z4_2), (0, .ref (B 0)), (1, .int (nI c))] → W pZ l eZ ({ frames := 6, cells := 0, slots := 0, locals := 139 } : Room) sZ mZ ([.ref (B 0), .int (nI c)] : List Value).toArray bZ meZ cZ H [] 0 0 (rd_Q bZ H [.ref (B 0), .int (nI c)] sZ (some (.int (mMi f g c)))) (F0 mZ 4 ls []) := by
    intro n4
    induction n4 with
    | zero =>
      intro k4 hk4 z4_2 ez4_2 ls hl
      obtain rfl : k4 = g 3 := by omega
      refine lv_iload_n hx hb dX11_misledNow_4 rfl (lv_at hl 0 rfl) ?_
      refine lv_aload_n hx hb dX11_misledNow_5 rfl (lv_at hl 2 rfl) ?_
      refine rd_get (own := RX11) (x := .ref (B 6)) S hG.1 iX11 (mP_0 hM) 7 rfl (by decide) w0 rfl dX11_misledNow_6 ?_
      refine rd_V (As := []) (rest := [.int (nI (g 3))]) (v := some (.int (nI (g 3)))) S hG (c_Jx4a65c_size_8abf5 l G H (B 6) (eA G B cp 6 9) (mc 6) (nI (g 3)) (mP_6 hM)) gX11_misledNow_Jx4a65c_size_8abf5 rfl ⟨rfl, rfl⟩ nmJx4a65c_size_8abf5 ⟨Nat.le_of_ble_eq_true rfl, Nat.le_of_ble_eq_true rfl⟩ (rd_rcv hG.1 (mP_6 hM) rfl) rfl hl.1 rfl (Nat.le_of_ble_eq_true rfl) ⟨Nat.zero_le _, Nat.zero_le _⟩ dX11_misledNow_9 ?_
      refine W.eq (g2 := F0 mZ 12 ls [.int (nI (g 3)), .int (nI (g 3))]) rfl ?_
      refine lv_icmp_ge (tgt := 69) hx hb dX11_misledNow_12 (by decide) (fun c1 => ?_) (fun c1 => ?_)
      · have d1 := Int32.not_lt.mpr c1
        refine lv_iload_n hx hb dX11_misledNow_69 rfl (lv_at hl 1 rfl) ?_
        exact rd_iret S hr hlk dX11_misledNow_70 (congrArg (fun z => some (Value.int z)) (by subst ez4_2; first | rfl | (simp only [mMi, c1, d1, ne_eq, not_true_eq_false, not_false_eq_true, and_true, true_and, and_false, false_and, or_true, true_or, or_false, false_or, and_self, or_self, decide_eq_true_eq, ↓reduceIte]; done) | (simp [mMi, c1, d1]; done) | (simp only [mMi, c1, d1, ne_eq, not_true_eq_false, not_false_eq_true, and_true, true_and, and_false, false_and, or_true, true_or, or_false, false_or, and_self, or_self, decide_eq_true_eq, ↓reduceIte])))
      · exact absurd (nI_le (by omega) (by omega)) c1
    | succ n4 ih4 =>
      intro k4 hk4 z4_2 ez4_2 ls hl
      refine lv_iload_n hx hb dX11_misledNow_4 rfl (lv_at hl 0 rfl) ?_
      refine lv_aload_n hx hb dX11_misledNow_5 rfl (lv_at hl 2 rfl) ?_
      refine rd_get (own := RX11) (x := .ref (B 6)) S hG.1 iX11 (mP_0 hM) 7 rfl (by decide) w0 rfl dX11_misledNow_6 ?_
      refine rd_V (As := []) (rest := [.int (nI k4)]) (v := some (.int (nI (g 3)))) S hG (c_Jx4a65c_size_8abf5 l G H (B 6) (eA G B cp 6 9) (mc 6) (nI (g 3)) (mP_6 hM)) gX11_misledNow_Jx4a65c_size_8abf5 rfl ⟨rfl, rfl⟩ nmJx4a65c_size_8abf5 ⟨Nat.le_of_ble_eq_true rfl, Nat.le_of_ble_eq_true rfl⟩ (rd_rcv hG.1 (mP_6 hM) rfl) rfl hl.1 rfl (Nat.le_of_ble_eq_true rfl) ⟨Nat.zero_le _, Nat.zero_le _⟩ dX11_misledNow_9 ?_
      refine W.eq (g2 := F0 mZ 12 ls [.int (nI (g 3)), .int (nI k4)]) rfl ?_
      refine lv_icmp_ge (tgt := 69) hx hb dX11_misledNow_12 (by decide) (fun c2 => ?_) (fun c2 => ?_)
      · exact absurd c2 (nI_ge (by omega) (by omega))
      · have d2 := Int32.not_le.mp c2
        refine lv_aload_n hx hb dX11_misledNow_15 rfl (lv_at hl 2 rfl) ?_
        refine lv_iload_n hx hb dX11_misledNow_16 rfl (lv_at hl 3 rfl) ?_
        refine lv_iload_n hx hb dX11_misledNow_17 rfl (lv_at hl 0 rfl) ?_
        refine lv_aload_n hx hb dX11_misledNow_18 rfl (lv_at hl 2 rfl) ?_
        refine rd_get (own := RX11) (x := .int (nI (g 0))) S hG.1 iX11 (mP_0 hM) 1 rfl (by decide) w1 rfl dX11_misledNow_19 ?_
        refine rd_V (As := [.int (nI c), .int (nI k4), .int (nI (g 0))]) (rest := []) (v := some (.int (mBl f g c k4 (nI (g 0))))) S hG (c_X11_believesNow l G B th mc cp f g H hM c k4 (nI (g 0)) (by omega) (by omega) (hrd _ (by omega))) gX11_misledNow_X11_believesNow rfl ⟨rfl, rfl⟩ nmX11_believesNow ⟨Nat.le_of_ble_eq_true rfl, Nat.le_of_ble_eq_true rfl⟩ (rd_rcv hG.1 (mP_0 hM) rfl) rfl hl.1 rfl (Nat.le_of_ble_eq_true rfl) ⟨Nat.zero_le _, Nat.zero_le _⟩ dX11_misledNow_22 ?_
        refine W.eq (g2 := F0 mZ 25 ls [.int (mBl f g c k4 (nI (g 0)))]) rfl ?_
        refine lv_topi (fun x3 ex3 => ?_)
        refine lv_istore (lv' := [(4, .int x3), (3, .int (nI k4)), (2, .int z4_2), (0, .ref (B 0)), (1, .int (nI c))]) hx hb dX11_misledNow_25 hl (by decide) rfl (fun ls hl => ?_)
        refine lv_aload_n hx hb dX11_misledNow_27 rfl (lv_at hl 3 rfl) ?_
        refine lv_iload_n hx hb dX11_misledNow_28 rfl (lv_at hl 1 rfl) ?_
        refine lv_aload_n hx hb dX11_misledNow_29 rfl (lv_at hl 3 rfl) ?_
        refine rd_get (own := RX11) (x := .int (nI (g 0))) S hG.1 iX11 (mP_0 hM) 1 rfl (by decide) w1 rfl dX11_misledNow_30 ?_
        refine rd_V (As := [.int (nI k4), .int (nI (g 0))]) (rest := []) (v := some (.int (mIF f g k4 (nI (g 0))))) S hG (c_X11_inForceNow l G B th mc cp f g H hM k4 (nI (g 0)) (by omega)) gX11_misledNow_X11_inForceNow rfl ⟨rfl, rfl⟩ nmX11_inForceNow ⟨Nat.le_of_ble_eq_true rfl, Nat.le_of_ble_eq_true rfl⟩ (rd_rcv hG.1 (mP_0 hM) rfl) rfl hl.1 rfl (Nat.le_of_ble_eq_true rfl) ⟨Nat.zero_le _, Nat.zero_le _⟩ dX11_misledNow_33 ?_
        refine W.eq (g2 := F0 mZ 36 ls [.int (mIF f g k4 (nI (g 0)))]) rfl ?_
        refine lv_topi (fun x4 ex4 => ?_)
        refine lv_istore (lv' := [(5, .int x4), (4, .int x3), (3, .int (nI k4)), (2, .int z4_2), (0, .ref (B 0)), (1, .int (nI c))]) hx hb dX11_misledNow_36 hl (by decide) rfl (fun ls hl => ?_)
        refine lv_iload hx hb dX11_misledNow_38 (lv_at hl 1 rfl) ?_
        refine lv_iconst (v := (-1)) hx hb dX11_misledNow_40 (by decide) ?_
        refine lv_icmp_eq (tgt := 63) hx hb dX11_misledNow_41 (by decide) (fun c5 => ?_) (fun c5 => ?_)
        · refine lv_iinc (v := nI (k4 + 1)) (lv' := [(3, .int (nI (k4 + 1))), (5, .int x4), (4, .int x3), (2, .int z4_2), (0, .ref (B 0)), (1, .int (nI c))]) hx hb dX11_misledNow_63 hl (k := 2) rfl (nI_inc _) (by decide) rfl (fun ls hl => ?_)
          refine lv_goto (tgt := 4) hx hb dX11_misledNow_66 (by decide) ?_
          exact ih4 (k4 + 1) (by omega) _ (by subst ex4; subst ex3; subst ez4_2; first | rfl | (simp only [fl, mMi, c2, d2, c5, ne_eq, not_true_eq_false, not_false_eq_true, and_true, true_and, and_false, false_and, or_true, true_or, or_false, false_or, and_self, or_self, decide_eq_true_eq, ↓reduceIte]; done) | (simp only [fl, mMi, c2, d2, c5, ne_eq, not_true_eq_false, not_false_eq_true, and_true, true_and, and_false, false_and, or_true, true_or, or_false, false_or, and_self, or_self, decide_eq_true_eq, ↓reduceIte]; rfl) | (simp [fl, mMi, c2, d2, c5]; done) | (simp only [fl, mMi, c2, d2, c5, ne_eq, not_true_eq_false, not_false_eq_true, and_true, true_and, and_false, false_and, or_true, true_or, or_false, false_or, and_self, or_self, decide_eq_true_eq, ↓reduceIte])) ls (lv_sub hl [0, 3, 4, 5] rfl)
        · refine lv_iload hx hb dX11_misledNow_44 (lv_at hl 0 rfl) ?_
          refine lv_iconst (v := (-1)) hx hb dX11_misledNow_46 (by decide) ?_
          refine lv_icmp_eq (tgt := 57) hx hb dX11_misledNow_47 (by decide) (fun c6 => ?_) (fun c6 => ?_)
          · refine lv_iload_n hx hb dX11_misledNow_57 rfl (lv_at hl 3 rfl) ?_
            refine lv_iconst (v := 1) hx hb dX11_misledNow_58 (by decide) ?_
            refine lv_iload_n hx hb dX11_misledNow_59 rfl (lv_at hl 2 rfl) ?_
            refine lv_ishl hx hb dX11_misledNow_60 ?_
            refine lv_ior hx hb dX11_misledNow_61 ?_
            refine lv_topi (fun x7 ex7 => ?_)
            refine lv_istore_n (lv' := [(2, .int x7), (5, .int x4), (4, .int x3), (3, .int (nI k4)), (0, .ref (B 0)), (1, .int (nI c))]) hx hb dX11_misledNow_62 rfl hl (by decide) rfl (fun ls hl => ?_)
            refine lv_iinc (v := nI (k4 + 1)) (lv' := [(3, .int (nI (k4 + 1))), (2, .int x7), (5, .int x4), (4, .int x3), (0, .ref (B 0)), (1, .int (nI c))]) hx hb dX11_misledNow_63 hl (k := 3) rfl (nI_inc _) (by decide) rfl (fun ls hl => ?_)
            refine lv_goto (tgt := 4) hx hb dX11_misledNow_66 (by decide) ?_
            exact ih4 (k4 + 1) (by omega) _ (by subst ex7; subst ex4; subst ex3; subst ez4_2; first | rfl | (simp only [fl, mMi, c2, d2, c5, c6, ne_eq, not_true_eq_false, not_false_eq_true, and_true, true_and, and_false, false_and, or_true, true_or, or_false, false_or, and_self, or_self, decide_eq_true_eq, ↓reduceIte]; done) | (simp only [fl, mMi, c2, d2, c5, c6, ne_eq, not_true_eq_false, not_false_eq_true, and_true, true_and, and_false, false_and, or_true, true_or, or_false, false_or, and_self, or_self, decide_eq_true_eq, ↓reduceIte]; rfl) | (simp [fl, mMi, c2, d2, c5, c6]; done) | (simp only [fl, mMi, c2, d2, c5, c6, ne_eq, not_true_eq_false, not_false_eq_true, and_true, true_and, and_false, false_and, or_true, true_or, or_false, false_or, and_self, or_self, decide_eq_true_eq, ↓reduceIte])) ls (lv_sub hl [0, 1, 4, 5] rfl)
          · refine lv_iload hx hb dX11_misledNow_50 (lv_at hl 0 rfl) ?_
            refine lv_iload hx hb dX11_misledNow_52 (lv_at hl 1 rfl) ?_
            refine lv_icmp_le (tgt := 63) hx hb dX11_misledNow_54 (by decide) (fun c8 => ?_) (fun c8 => ?_)
            · have d8 := Int32.not_lt.mpr c8
              refine lv_iinc (v := nI (k4 + 1)) (lv' := [(3, .int (nI (k4 + 1))), (5, .int x4), (4, .int x3), (2, .int z4_2), (0, .ref (B 0)), (1, .int (nI c))]) hx hb dX11_misledNow_63 hl (k := 2) rfl (nI_inc _) (by decide) rfl (fun ls hl => ?_)
              refine lv_goto (tgt := 4) hx hb dX11_misledNow_66 (by decide) ?_
              exact ih4 (k4 + 1) (by omega) _ (by subst ex4; subst ex3; subst ez4_2; first | rfl | (simp only [fl, mMi, c2, d2, c5, c6, c8, d8, ne_eq, not_true_eq_false, not_false_eq_true, and_true, true_and, and_false, false_and, or_true, true_or, or_false, false_or, and_self, or_self, decide_eq_true_eq, ↓reduceIte]; done) | (simp only [fl, mMi, c2, d2, c5, c6, c8, d8, ne_eq, not_true_eq_false, not_false_eq_true, and_true, true_and, and_false, false_and, or_true, true_or, or_false, false_or, and_self, or_self, decide_eq_true_eq, ↓reduceIte]; rfl) | (simp [fl, mMi, c2, d2, c5, c6, c8, d8]; done) | (simp only [fl, mMi, c2, d2, c5, c6, c8, d8, ne_eq, not_true_eq_false, not_false_eq_true, and_true, true_and, and_false, false_and, or_true, true_or, or_false, false_or, and_self, or_self, decide_eq_true_eq, ↓reduceIte])) ls (lv_sub hl [0, 3, 4, 5] rfl)
            · have d8 := Int32.not_le.mp c8
              refine lv_iload_n hx hb dX11_misledNow_57 rfl (lv_at hl 3 rfl) ?_
              refine lv_iconst (v := 1) hx hb dX11_misledNow_58 (by decide) ?_
              refine lv_iload_n hx hb dX11_misledNow_59 rfl (lv_at hl 2 rfl) ?_
              refine lv_ishl hx hb dX11_misledNow_60 ?_
              refine lv_ior hx hb dX11_misledNow_61 ?_
              refine lv_topi (fun x9 ex9 => ?_)
              refine lv_istore_n (lv' := [(2, .int x9), (5, .int x4), (4, .int x3), (3, .int (nI k4)), (0, .ref (B 0)), (1, .int (nI c))]) hx hb dX11_misledNow_62 rfl hl (by decide) rfl (fun ls hl => ?_)
              refine lv_iinc (v := nI (k4 + 1)) (lv' := [(3, .int (nI (k4 + 1))), (2, .int x9), (5, .int x4), (4, .int x3), (0, .ref (B 0)), (1, .int (nI c))]) hx hb dX11_misledNow_63 hl (k := 3) rfl (nI_inc _) (by decide) rfl (fun ls hl => ?_)
              refine lv_goto (tgt := 4) hx hb dX11_misledNow_66 (by decide) ?_
              exact ih4 (k4 + 1) (by omega) _ (by subst ex9; subst ex4; subst ex3; subst ez4_2; first | rfl | (simp only [fl, mMi, c2, d2, c5, c6, c8, d8, ne_eq, not_true_eq_false, not_false_eq_true, and_true, true_and, and_false, false_and, or_true, true_or, or_false, false_or, and_self, or_self, decide_eq_true_eq, ↓reduceIte]; done) | (simp only [fl, mMi, c2, d2, c5, c6, c8, d8, ne_eq, not_true_eq_false, not_false_eq_true, and_true, true_and, and_false, false_and, or_true, true_or, or_false, false_or, and_self, or_self, decide_eq_true_eq, ↓reduceIte]; rfl) | (simp [fl, mMi, c2, d2, c5, c6, c8, d8]; done) | (simp only [fl, mMi, c2, d2, c5, c6, c8, d8, ne_eq, not_true_eq_false, not_false_eq_true, and_true, true_and, and_false, false_and, or_true, true_or, or_false, false_or, and_self, or_self, decide_eq_true_eq, ↓reduceIte])) ls (lv_sub hl [0, 1, 4, 5] rfl)
  exact loop4 (g 3) 0 (by omega) _ (by first | rfl | first | rfl | (simp only [fl, mMi, ne_eq, not_true_eq_false, not_false_eq_true, and_true, true_and, and_false, false_and, or_true, true_or, or_false, false_or, and_self, or_self, decide_eq_true_eq, ↓reduceIte]; done) | (simp only [fl, mMi, ne_eq, not_true_eq_false, not_false_eq_true, and_true, true_and, and_false, false_and, or_true, true_or, or_false, false_or, and_self, or_self, decide_eq_true_eq, ↓reduceIte]; rfl) | (simp [fl, mMi]; done) | (simp only [fl, mMi, ne_eq, not_true_eq_false, not_false_eq_true, and_true, true_and, and_false, false_and, or_true, true_or, or_false, false_or, and_self, or_self, decide_eq_true_eq, ↓reduceIte])) ls (lv_sub hl [0, 1, 2, 3] rfl)

theorem nmX11_unsafeOnNow : nmV yX11_unsafeOnNow RX11 1 := by decide +kernel

set_option maxHeartbeats 1000000 in
set_option maxRecDepth 100000 in
theorem c_X11_unsafeOnNow (l : Launch) (G : GT) (B : Nat → Nat) (th : Int32) (mc : Nat → Int32) (cp : Nat → Nat) (f : Nat → Nat → Int32) (g : Nat → Nat) (H : Heap) (hM : MP G B th mc cp f g H) (i : Nat) (hi : i < g 3) : RdV l G H yX11_unsafeOnNow wsX11_unsafeOnNow { frames := 7, cells := 0, slots := 0, locals := 165 } [.ref (B 0), .int (nI i)] (some (.int (mUL f g i (400 - g 0) 0))) := by
  refine rd_of (cc := cX11_unsafeOnNow) (maxL := 3) (ret := (some .int)) (by decide) rfl (Nat.le_of_ble_eq_true rfl) ?_
  intro pZ eZ sZ mZ bZ meZ cZ ls S hr hlk hl hHs hG
  have S : CallFix pZ mZ cZ cX11_unsafeOnNow 3 sZ _ wsX11_unsafeOnNow RX11 := S
  have hx := S.1
  have hb := S.2.1
  have hown := S.2.2.2.1
  have hts := S.2.2.2.2
  have hl : lv_has ls 3 [(0, .ref (B 0)), (1, .int (nI i))] := hl
  have w0 := hts (.fieldLink RX11 156 "MinimaRoomModel" "now" "I") (by decide +kernel)
  have iX11 : ∀ w ∈ u_ws RX11 TX11 11, w ∈ wsX11_unsafeOnNow := by decide +kernel
  have hI := hM.1
  have hgb := hI.1.1
  have hg0 := hI.1.2.1
  have hg1 := hI.1.2.2.1
  have hg3 := hI.1.2.2.2.1
  have hg4 := hI.1.2.2.2.2.1
  have hg5 := hI.1.2.2.2.2.2
  refine lv_aload_n hx hb dX11_unsafeOnNow_0 rfl (lv_at hl 0 rfl) ?_
  refine rd_get (own := RX11) (x := .int (nI (g 0))) S hG.1 iX11 (mP_0 hM) 1 rfl (by decide) w0 rfl dX11_unsafeOnNow_1 ?_
  refine lv_istore_n (lv' := [(2, .int (nI (g 0))), (0, .ref (B 0)), (1, .int (nI i))]) hx hb dX11_unsafeOnNow_4 rfl hl (by decide) rfl (fun ls hl => ?_)
  have loop5 : ∀ (n5 k5 : Nat), k5 + n5 = 400 - g 0 → mUL f g i (400 - g 0) 0 = mUL f g i n5 k5 → ∀ (ls : Array Slot), lv_has ls 3 [(2, .int (nI (g 0 + k5))), (0, .ref (B 0)), (1, .int (nI i))] → W pZ l eZ ({ frames := 7, cells := 0, slots := 0, locals := 165 } : Room) sZ mZ ([.ref (B 0), .int (nI i)] : List Value).toArray bZ meZ cZ H [] 0 0 (rd_Q bZ H [.ref (B 0), .int (nI i)] sZ (some (.int (mUL f g i (400 - g 0) 0)))) (F0 mZ 5 ls []) := by
    intro n5
    induction n5 with
    | zero =>
      intro k5 hk5  inv5 ls hl
      obtain rfl : k5 = 400 - g 0 := by omega
      refine lv_iload_n hx hb dX11_unsafeOnNow_5 rfl (lv_at hl 0 rfl) ?_
      refine lv_sipush (v := 399) hx hb dX11_unsafeOnNow_6 (by decide) ?_
      refine lv_icmp_gt (tgt := 29) hx hb dX11_unsafeOnNow_9 (by decide) (fun c1 => ?_) (fun c1 => ?_)
      · have d1 := Int32.not_le.mpr c1
        refine lv_iconst (v := (-1)) hx hb dX11_unsafeOnNow_29 (by decide) ?_
        exact rd_iret S hr hlk dX11_unsafeOnNow_30 (congrArg (fun z => some (Value.int z)) (by exact inv5.trans (by first | rfl | (simp only [mUL, c1, d1, ne_eq, not_true_eq_false, not_false_eq_true, and_true, true_and, and_false, false_and, or_true, true_or, or_false, false_or, and_self, or_self, decide_eq_true_eq, ↓reduceIte]; done) | (simp [mUL, c1, d1]; done) | (simp only [mUL, c1, d1, ne_eq, not_true_eq_false, not_false_eq_true, and_true, true_and, and_false, false_and, or_true, true_or, or_false, false_or, and_self, or_self, decide_eq_true_eq, ↓reduceIte]))))
      · have c1 : ¬ (nI 399 < nI (g 0 + (400 - g 0))) := c1; exact absurd (nI_lt (by omega) (by omega)) c1
    | succ n5 ih5 =>
      intro k5 hk5  inv5 ls hl
      refine lv_iload_n hx hb dX11_unsafeOnNow_5 rfl (lv_at hl 0 rfl) ?_
      refine lv_sipush (v := 399) hx hb dX11_unsafeOnNow_6 (by decide) ?_
      refine lv_icmp_gt (tgt := 29) hx hb dX11_unsafeOnNow_9 (by decide) (fun c2 => ?_) (fun c2 => ?_)
      · have c2 : nI 399 < nI (g 0 + k5) := c2; exact absurd c2 (nI_nlt (by omega) (by omega))
      · have d2 := Int32.not_lt.mp c2
        refine lv_aload_n hx hb dX11_unsafeOnNow_12 rfl (lv_at hl 1 rfl) ?_
        refine lv_iload_n hx hb dX11_unsafeOnNow_13 rfl (lv_at hl 2 rfl) ?_
        refine lv_iload_n hx hb dX11_unsafeOnNow_14 rfl (lv_at hl 0 rfl) ?_
        refine rd_V (As := [.int (nI i), .int (nI (g 0 + k5))]) (rest := []) (v := some (.int (b2i (mUn f g i (nI (g 0 + k5)) = true)))) S hG (c_X11_isUnsafe l G B th mc cp f g H hM i (nI (g 0 + k5)) (by omega)) gX11_unsafeOnNow_X11_isUnsafe rfl ⟨rfl, rfl⟩ nmX11_isUnsafe ⟨Nat.le_of_ble_eq_true rfl, Nat.le_of_ble_eq_true rfl⟩ (rd_rcv hG.1 (mP_0 hM) rfl) rfl hl.1 rfl (Nat.le_of_ble_eq_true rfl) ⟨Nat.zero_le _, Nat.zero_le _⟩ dX11_unsafeOnNow_15 ?_
        refine W.eq (g2 := F0 mZ 18 ls [.int (b2i (mUn f g i (nI (g 0 + k5)) = true))]) rfl ?_
        refine lv_if_eq (tgt := 23) hx hb dX11_unsafeOnNow_18 (by decide) (fun c3 => ?_) (fun c3 => ?_)
        · have c3 := b2i_z.mp c3
          refine lv_iinc (v := nI ((g 0 + k5) + 1)) (lv' := [(2, .int (nI ((g 0 + k5) + 1))), (0, .ref (B 0)), (1, .int (nI i))]) hx hb dX11_unsafeOnNow_23 hl (k := 0) rfl (nI_inc _) (by decide) rfl (fun ls hl => ?_)
          refine lv_goto (tgt := 5) hx hb dX11_unsafeOnNow_26 (by decide) ?_
          exact ih5 (k5 + 1) (by omega) (inv5.trans (by first | rfl | (simp only [fl, mUL, c2, d2, c3, ne_eq, not_true_eq_false, not_false_eq_true, and_true, true_and, and_false, false_and, or_true, true_or, or_false, false_or, and_self, or_self, decide_eq_true_eq, ↓reduceIte]; done) | (simp only [fl, mUL, c2, d2, c3, ne_eq, not_true_eq_false, not_false_eq_true, and_true, true_and, and_false, false_and, or_true, true_or, or_false, false_or, and_self, or_self, decide_eq_true_eq, ↓reduceIte]; rfl) | (simp [fl, mUL, c2, d2, c3]; done) | (simp only [fl, mUL, c2, d2, c3, ne_eq, not_true_eq_false, not_false_eq_true, and_true, true_and, and_false, false_and, or_true, true_or, or_false, false_or, and_self, or_self, decide_eq_true_eq, ↓reduceIte]))) ls (lv_sub hl [0, 1, 2] rfl)
        · have c3 := b2i_nz.mp c3
          refine lv_iload_n hx hb dX11_unsafeOnNow_21 rfl (lv_at hl 0 rfl) ?_
          exact rd_iret S hr hlk dX11_unsafeOnNow_22 (congrArg (fun z => some (Value.int z)) (by exact inv5.trans (by first | rfl | (simp only [mUL, c2, d2, c3, ne_eq, not_true_eq_false, not_false_eq_true, and_true, true_and, and_false, false_and, or_true, true_or, or_false, false_or, and_self, or_self, decide_eq_true_eq, ↓reduceIte]; done) | (simp [mUL, c2, d2, c3]; done) | (simp only [mUL, c2, d2, c3, ne_eq, not_true_eq_false, not_false_eq_true, and_true, true_and, and_false, false_and, or_true, true_or, or_false, false_or, and_self, or_self, decide_eq_true_eq, ↓reduceIte]))))
  exact loop5 (400 - g 0) 0 (by omega) (by rfl) ls (lv_sub hl [0, 1, 2] rfl)

theorem nmX11_raiseForNow : nmV yX11_raiseForNow RX11 1 := by decide +kernel

set_option maxHeartbeats 1000000 in
set_option maxRecDepth 100000 in
theorem c_X11_raiseForNow (l : Launch) (G : GT) (B : Nat → Nat) (th : Int32) (mc : Nat → Int32) (cp : Nat → Nat) (f : Nat → Nat → Int32) (g : Nat → Nat) (H : Heap) (hM : MP G B th mc cp f g H) (i : Nat) (hi : i < g 3) : RdV l G H yX11_raiseForNow wsX11_raiseForNow { frames := 7, cells := 0, slots := 0, locals := 165 } [.ref (B 0), .int (nI i)] (some (.int (mRF f g i))) := by
  refine rd_of (cc := cX11_raiseForNow) (maxL := 4) (ret := (some .int)) (by decide) rfl (Nat.le_of_ble_eq_true rfl) ?_
  intro pZ eZ sZ mZ bZ meZ cZ ls S hr hlk hl hHs hG
  have S : CallFix pZ mZ cZ cX11_raiseForNow 4 sZ _ wsX11_raiseForNow RX11 := S
  have hx := S.1
  have hb := S.2.1
  have hown := S.2.2.2.1
  have hts := S.2.2.2.2
  have hl : lv_has ls 4 [(0, .ref (B 0)), (1, .int (nI i))] := hl
  have w0 := hts (.fieldLink RX11 156 "MinimaRoomModel" "now" "I") (by decide +kernel)
  have w1 := hts (.fieldLink RX11 23 "MinimaRoomModel" "procedures" "Ljava/util/ArrayList;") (by decide +kernel)
  have w2 := hts (.classLink RX11 59 "MinimaRoomModel$Procedure") (by decide +kernel)
  have iX11 : ∀ w ∈ u_ws RX11 TX11 11, w ∈ wsX11_raiseForNow := by decide +kernel
  have m_max_86 : [.methodLink RX11 86 Lib.Math.max.name, .static Lib.Math.max.name, .initialized "java/lang/Math", .code Lib.Math.max.name Lib.Math.max.code 2 (some .int)] ⊆ wsX11_raiseForNow := by decide +kernel
  have hI := hM.1
  have hgb := hI.1.1
  have hg0 := hI.1.2.1
  have hg1 := hI.1.2.2.1
  have hg3 := hI.1.2.2.2.1
  have hg4 := hI.1.2.2.2.2.1
  have hg5 := hI.1.2.2.2.2.2
  refine lv_iconst (v := 0) hx hb dX11_raiseForNow_0 (by decide) ?_
  refine lv_istore_n (lv' := [(2, .int 0), (0, .ref (B 0)), (1, .int (nI i))]) hx hb dX11_raiseForNow_1 rfl hl (by decide) rfl (fun ls hl => ?_)
  refine lv_aload_n hx hb dX11_raiseForNow_2 rfl (lv_at hl 1 rfl) ?_
  refine rd_get (own := RX11) (x := .int (nI (g 0))) S hG.1 iX11 (mP_0 hM) 1 rfl (by decide) w0 rfl dX11_raiseForNow_3 ?_
  refine lv_istore_n (lv' := [(3, .int (nI (g 0))), (2, .int 0), (0, .ref (B 0)), (1, .int (nI i))]) hx hb dX11_raiseForNow_6 rfl hl (by decide) rfl (fun ls hl => ?_)
  have loop7 : ∀ (n7 k7 : Nat), k7 + n7 = 400 - g 0 → ∀ (z7_2 : Int32), z7_2 = fl k7 (fun j by_ => if mUn f g i (nI (g 0 + j)) = true then imax by_ (mLH f g i (nI (g 0 + j)) (-1) - mCh f g i (nI (g 0 + j))) else by_) 0 → ∀ (ls : Array Slot), lv_has ls 4 [(3, .int (nI (g 0 + k7))), (2, .int z7_2), (0, .ref (B 0)), (1, .int (nI i))] → W pZ l eZ ({ frames := 7, cells := 0, slots := 0, locals := 165 } : Room) sZ mZ ([.ref (B 0), .int (nI i)] : List Value).toArray bZ meZ cZ H [] 0 0 (rd_Q bZ H [.ref (B 0), .int (nI i)] sZ (some (.int (mRF f g i)))) (F0 mZ 7 ls []) := by
    intro n7
    induction n7 with
    | zero =>
      intro k7 hk7 z7_2 ez7_2 ls hl
      obtain rfl : k7 = 400 - g 0 := by omega
      refine lv_iload_n hx hb dX11_raiseForNow_7 rfl (lv_at hl 0 rfl) ?_
      refine lv_sipush (v := 399) hx hb dX11_raiseForNow_8 (by decide) ?_
      refine lv_icmp_gt (tgt := 56) hx hb dX11_raiseForNow_11 (by decide) (fun c1 => ?_) (fun c1 => ?_)
      · have d1 := Int32.not_le.mpr c1
        refine lv_iload_n hx hb dX11_raiseForNow_56 rfl (lv_at hl 1 rfl) ?_
        refine lv_sipush (v := 500) hx hb dX11_raiseForNow_57 (by decide) ?_
        refine lv_icmp_le (tgt := 67) hx hb dX11_raiseForNow_60 (by decide) (fun c2 => ?_) (fun c2 => ?_)
        · have d2 := Int32.not_lt.mpr c2
          refine lv_iload_n hx hb dX11_raiseForNow_67 rfl (lv_at hl 1 rfl) ?_
          exact rd_iret S hr hlk dX11_raiseForNow_68 (congrArg (fun z => some (Value.int z)) (by subst ez7_2; first | rfl | (simp only [mRF, mRL, c1, d1, c2, d2, ne_eq, not_true_eq_false, not_false_eq_true, and_true, true_and, and_false, false_and, or_true, true_or, or_false, false_or, and_self, or_self, decide_eq_true_eq, ↓reduceIte]; done) | (simp [mRF, mRL, c1, d1, c2, d2]; done) | (simp only [mRF, mRL, c1, d1, c2, d2, ne_eq, not_true_eq_false, not_false_eq_true, and_true, true_and, and_false, false_and, or_true, true_or, or_false, false_or, and_self, or_self, decide_eq_true_eq, ↓reduceIte])))
        · have d2 := Int32.not_le.mp c2
          refine lv_iconst (v := (-1)) hx hb dX11_raiseForNow_63 (by decide) ?_
          refine lv_goto (tgt := 68) hx hb dX11_raiseForNow_64 (by decide) ?_
          exact rd_iret S hr hlk dX11_raiseForNow_68 (congrArg (fun z => some (Value.int z)) (by subst ez7_2; first | rfl | (simp only [mRF, mRL, c1, d1, c2, d2, ne_eq, not_true_eq_false, not_false_eq_true, and_true, true_and, and_false, false_and, or_true, true_or, or_false, false_or, and_self, or_self, decide_eq_true_eq, ↓reduceIte]; done) | (simp [mRF, mRL, c1, d1, c2, d2]; done) | (simp only [mRF, mRL, c1, d1, c2, d2, ne_eq, not_true_eq_false, not_false_eq_true, and_true, true_and, and_false, false_and, or_true, true_or, or_false, false_or, and_self, or_self, decide_eq_true_eq, ↓reduceIte])))
      · have c1 : ¬ (nI 399 < nI (g 0 + (400 - g 0))) := c1; exact absurd (nI_lt (by omega) (by omega)) c1
    | succ n7 ih7 =>
      intro k7 hk7 z7_2 ez7_2 ls hl
      refine lv_iload_n hx hb dX11_raiseForNow_7 rfl (lv_at hl 0 rfl) ?_
      refine lv_sipush (v := 399) hx hb dX11_raiseForNow_8 (by decide) ?_
      refine lv_icmp_gt (tgt := 56) hx hb dX11_raiseForNow_11 (by decide) (fun c3 => ?_) (fun c3 => ?_)
      · have c3 : nI 399 < nI (g 0 + k7) := c3; exact absurd c3 (nI_nlt (by omega) (by omega))
      · have d3 := Int32.not_lt.mp c3
        refine lv_aload_n hx hb dX11_raiseForNow_14 rfl (lv_at hl 2 rfl) ?_
        refine lv_iload_n hx hb dX11_raiseForNow_15 rfl (lv_at hl 3 rfl) ?_
        refine lv_iload_n hx hb dX11_raiseForNow_16 rfl (lv_at hl 0 rfl) ?_
        refine rd_V (As := [.int (nI i), .int (nI (g 0 + k7))]) (rest := []) (v := some (.int (b2i (mUn f g i (nI (g 0 + k7)) = true)))) S hG (c_X11_isUnsafe l G B th mc cp f g H hM i (nI (g 0 + k7)) (by omega)) gX11_raiseForNow_X11_isUnsafe rfl ⟨rfl, rfl⟩ nmX11_isUnsafe ⟨Nat.le_of_ble_eq_true rfl, Nat.le_of_ble_eq_true rfl⟩ (rd_rcv hG.1 (mP_0 hM) rfl) rfl hl.1 rfl (Nat.le_of_ble_eq_true rfl) ⟨Nat.zero_le _, Nat.zero_le _⟩ dX11_raiseForNow_17 ?_
        refine W.eq (g2 := F0 mZ 20 ls [.int (b2i (mUn f g i (nI (g 0 + k7)) = true))]) rfl ?_
        refine lv_if_eq (tgt := 50) hx hb dX11_raiseForNow_20 (by decide) (fun c4 => ?_) (fun c4 => ?_)
        · have c4 := b2i_z.mp c4
          refine lv_iinc (v := nI ((g 0 + k7) + 1)) (lv' := [(3, .int (nI ((g 0 + k7) + 1))), (2, .int z7_2), (0, .ref (B 0)), (1, .int (nI i))]) hx hb dX11_raiseForNow_50 hl (k := 0) rfl (nI_inc _) (by decide) rfl (fun ls hl => ?_)
          refine lv_goto (tgt := 7) hx hb dX11_raiseForNow_53 (by decide) ?_
          exact ih7 (k7 + 1) (by omega) _ (by subst ez7_2; first | rfl | (simp only [fl, mRF, mRL, c3, d3, c4, ne_eq, not_true_eq_false, not_false_eq_true, and_true, true_and, and_false, false_and, or_true, true_or, or_false, false_or, and_self, or_self, decide_eq_true_eq, ↓reduceIte]; done) | (simp only [fl, mRF, mRL, c3, d3, c4, ne_eq, not_true_eq_false, not_false_eq_true, and_true, true_and, and_false, false_and, or_true, true_or, or_false, false_or, and_self, or_self, decide_eq_true_eq, ↓reduceIte]; rfl) | (simp [fl, mRF, mRL, c3, d3, c4]; done) | (simp only [fl, mRF, mRL, c3, d3, c4, ne_eq, not_true_eq_false, not_false_eq_true, and_true, true_and, and_false, false_and, or_true, true_or, or_false, false_or, and_self, or_self, decide_eq_true_eq, ↓reduceIte])) ls (lv_sub hl [0, 1, 2, 3] rfl)
        · have c4 := b2i_nz.mp c4
          refine lv_iload_n hx hb dX11_raiseForNow_23 rfl (lv_at hl 1 rfl) ?_
          refine lv_aload_n hx hb dX11_raiseForNow_24 rfl (lv_at hl 2 rfl) ?_
          refine lv_iload_n hx hb dX11_raiseForNow_25 rfl (lv_at hl 3 rfl) ?_
          refine lv_iload_n hx hb dX11_raiseForNow_26 rfl (lv_at hl 0 rfl) ?_
          refine rd_V (As := [.int (nI i), .int (nI (g 0 + k7))]) (rest := [.int z7_2]) (v := some (.int (mLH f g i (nI (g 0 + k7)) (-1)))) S hG (c_X11_demandedNow_ l G B th mc cp f g H hM i (nI (g 0 + k7)) (by omega)) gX11_raiseForNow_X11_demandedNow_ rfl ⟨rfl, rfl⟩ nmX11_demandedNow_ ⟨Nat.le_of_ble_eq_true rfl, Nat.le_of_ble_eq_true rfl⟩ (rd_rcv hG.1 (mP_0 hM) rfl) rfl hl.1 rfl (Nat.le_of_ble_eq_true rfl) ⟨Nat.zero_le _, Nat.zero_le _⟩ dX11_raiseForNow_27 ?_
          refine W.eq (g2 := F0 mZ 30 ls [.int (mLH f g i (nI (g 0 + k7)) (-1)), .int z7_2]) rfl ?_
          refine lv_aload_n hx hb dX11_raiseForNow_30 rfl (lv_at hl 2 rfl) ?_
          refine rd_get (own := RX11) (x := .ref (B 6)) S hG.1 iX11 (mP_0 hM) 7 rfl (by decide) w1 rfl dX11_raiseForNow_31 ?_
          refine lv_iload_n hx hb dX11_raiseForNow_34 rfl (lv_at hl 3 rfl) ?_
          refine rd_V (As := [.int (nI i)]) (rest := [.int (mLH f g i (nI (g 0 + k7)) (-1)), .int z7_2]) (v := some (.ref (B (40 + i)))) S hG (c_Jx4a65c_get_915e3 l G H (B 6) (eA G B cp 6 9) (mc 6) (g 3) (cp 6) (lsE B 40 (g 3)) (mP_6 hM) (mP_e6 hM (by omega)) hM.1.2.1.2.1 (hM.1.2.1.2.2.2.2 _) i (B (40 + i)) (by omega) (lsE_at (by omega))) gX11_raiseForNow_Jx4a65c_get_915e3 rfl ⟨rfl, rfl⟩ nmJx4a65c_get_915e3 ⟨Nat.le_of_ble_eq_true rfl, Nat.le_of_ble_eq_true rfl⟩ (rd_rcv hG.1 (mP_6 hM) rfl) rfl hl.1 rfl (Nat.le_of_ble_eq_true rfl) ⟨Nat.zero_le _, Nat.zero_le _⟩ dX11_raiseForNow_35 ?_
          refine W.eq (g2 := F0 mZ 38 ls [.ref (B (40 + i)), .int (mLH f g i (nI (g 0 + k7)) (-1)), .int z7_2]) rfl ?_
          refine rd_castS S hG.1 (mP_pr hM (i := i) (by omega)) rfl rfl w2 dX11_raiseForNow_38 ?_
          refine lv_iload_n hx hb dX11_raiseForNow_41 rfl (lv_at hl 0 rfl) ?_
          refine rd_V (As := [.int (nI (g 0 + k7))]) (rest := [.int (mLH f g i (nI (g 0 + k7)) (-1)), .int z7_2]) (v := some (.int (mCh f g i (nI (g 0 + k7))))) S hG (c_X10_chart l G B th mc cp f g H hM i (nI (g 0 + k7)) (by omega)) gX11_raiseForNow_X10_chart rfl ⟨rfl, rfl⟩ nmX10_chart ⟨Nat.le_of_ble_eq_true rfl, Nat.le_of_ble_eq_true rfl⟩ (rd_rcv hG.1 (mP_pr hM (i := i) (by omega)) rfl) rfl hl.1 rfl (Nat.le_of_ble_eq_true rfl) ⟨Nat.zero_le _, Nat.zero_le _⟩ dX11_raiseForNow_42 ?_
          refine W.eq (g2 := F0 mZ 45 ls [.int (mCh f g i (nI (g 0 + k7))), .int (mLH f g i (nI (g 0 + k7)) (-1)), .int z7_2]) rfl ?_
          refine lv_isub hx hb dX11_raiseForNow_45 ?_
          refine rd_max S hl.1 m_max_86 ⟨Nat.le_of_ble_eq_true rfl, Nat.le_of_ble_eq_true rfl⟩ (Nat.le_of_ble_eq_true rfl) ⟨Nat.zero_le _, Nat.zero_le _⟩ dX11_raiseForNow_46 ?_
          refine W.eq (g2 := F0 mZ 49 ls [.int (imax z7_2 ((mLH f g i (nI (g 0 + k7)) (-1)) - (mCh f g i (nI (g 0 + k7)))))]) rfl ?_
          refine lv_topi (fun x5 ex5 => ?_)
          refine lv_istore_n (lv' := [(2, .int x5), (3, .int (nI (g 0 + k7))), (0, .ref (B 0)), (1, .int (nI i))]) hx hb dX11_raiseForNow_49 rfl hl (by decide) rfl (fun ls hl => ?_)
          refine lv_iinc (v := nI ((g 0 + k7) + 1)) (lv' := [(3, .int (nI ((g 0 + k7) + 1))), (2, .int x5), (0, .ref (B 0)), (1, .int (nI i))]) hx hb dX11_raiseForNow_50 hl (k := 1) rfl (nI_inc _) (by decide) rfl (fun ls hl => ?_)
          refine lv_goto (tgt := 7) hx hb dX11_raiseForNow_53 (by decide) ?_
          exact ih7 (k7 + 1) (by omega) _ (by subst ex5; subst ez7_2; first | rfl | (simp only [fl, mRF, mRL, c3, d3, c4, ne_eq, not_true_eq_false, not_false_eq_true, and_true, true_and, and_false, false_and, or_true, true_or, or_false, false_or, and_self, or_self, decide_eq_true_eq, ↓reduceIte]; done) | (simp only [fl, mRF, mRL, c3, d3, c4, ne_eq, not_true_eq_false, not_false_eq_true, and_true, true_and, and_false, false_and, or_true, true_or, or_false, false_or, and_self, or_self, decide_eq_true_eq, ↓reduceIte]; rfl) | (simp [fl, mRF, mRL, c3, d3, c4]; done) | (simp only [fl, mRF, mRL, c3, d3, c4, ne_eq, not_true_eq_false, not_false_eq_true, and_true, true_and, and_false, false_and, or_true, true_or, or_false, false_or, and_self, or_self, decide_eq_true_eq, ↓reduceIte])) ls (lv_sub hl [0, 1, 2, 3] rfl)
  exact loop7 (400 - g 0) 0 (by omega) _ (by first | rfl | first | rfl | (simp only [fl, mRF, mRL, ne_eq, not_true_eq_false, not_false_eq_true, and_true, true_and, and_false, false_and, or_true, true_or, or_false, false_or, and_self, or_self, decide_eq_true_eq, ↓reduceIte]; done) | (simp only [fl, mRF, mRL, ne_eq, not_true_eq_false, not_false_eq_true, and_true, true_and, and_false, false_and, or_true, true_or, or_false, false_or, and_self, or_self, decide_eq_true_eq, ↓reduceIte]; rfl) | (simp [fl, mRF, mRL]; done) | (simp only [fl, mRF, mRL, ne_eq, not_true_eq_false, not_false_eq_true, and_true, true_and, and_false, false_and, or_true, true_or, or_false, false_or, and_self, or_self, decide_eq_true_eq, ↓reduceIte])) ls (lv_sub hl [0, 1, 2, 3] rfl)

