/-! what the reference's methods answer, in its own words -/
def inB (v lo hi : Int32) : Bool := decide (¬ v < lo ∧ ¬ hi < v)
def mGd (f : Nat → Nat → Int32) (a : Nat) (d : Int32) : Bool := decide (¬ f 16 a < d)
def thX (a b d : Int32) : Bool := decide (¬ d < a ∧ (b = -1 ∨ ¬ b < d))
def mNd (x y t mg sl : Int32) : Int32 := if 2 * (1 + x / 10) < iabs y then 0 else if ¬ sl = -1 ∧ ¬ x * sl < t then 0 else if ¬ 1 + x / 10 < iabs y then t + mg else t + mg * (2 * (1 + x / 10) - iabs y) / (1 + x / 10)
def mAb (t x h : Int32) : Int32 := t - (h - 30 - 25 * x)
theorem ne_in {x : Int32} (h : ¬ x < 0) : ¬ 1 + x / 10 = 0 := by
  obtain ⟨j, hj, rfl⟩ := nI_of h
  have e : (1 : Int32) + nI j / 10 = nI (1 + j / 10) := by
    show nI 1 + nI j / nI 10 = _
    rw [pk_div hj (by decide) (by decide), nI_add]
  rw [e]
  exact nI_ne0 (by omega) (by omega)
theorem nmX11_isIn : nmV yX11_isIn RX11 3 := by decide +kernel

set_option maxHeartbeats 1000000 in
set_option maxRecDepth 100000 in
theorem c_X11_isIn (l : Launch) (G : GT) (H : Heap) (v : Int32) (lo : Int32) (hi : Int32) : RdV l G H yX11_isIn wsX11_isIn { frames := 0, cells := 0, slots := 0, locals := 0 } [.int v, .int lo, .int hi] (some (.int (b2i (inB v lo hi = true)))) := by
  refine rd_of (cc := cX11_isIn) (maxL := 3) (ret := (some .boolean)) (by decide) rfl (Nat.le_of_ble_eq_true rfl) ?_
  intro pZ eZ sZ mZ bZ meZ cZ ls S hr hlk hl hHs hG
  have S : CallFix pZ mZ cZ cX11_isIn 3 sZ _ wsX11_isIn RX11 := S
  have hx := S.1
  have hb := S.2.1
  have hown := S.2.2.2.1
  have hts := S.2.2.2.2
  have hl : lv_has ls 3 [(0, .int v), (1, .int lo), (2, .int hi)] := hl
  refine lv_iload_n hx hb dX11_isIn_0 rfl (lv_at hl 0 rfl) ?_
  refine lv_iload_n hx hb dX11_isIn_1 rfl (lv_at hl 1 rfl) ?_
  refine lv_icmp_lt (tgt := 14) hx hb dX11_isIn_2 (by decide) (fun c1 => ?_) (fun c1 => ?_)
  · have d1 := Int32.not_le.mpr c1
    refine lv_iconst (v := 0) hx hb dX11_isIn_14 (by decide) ?_
    exact rd_zret S hr hlk dX11_isIn_15 (by first | rfl | exact nz_b2i _) (congrArg (fun z => some (Value.int z)) (by first | rfl | (simp only [inB, b2i, c1, d1, ne_eq, not_true_eq_false, not_false_eq_true, and_true, true_and, and_false, false_and, or_true, true_or, or_false, false_or, and_self, or_self, decide_eq_true_eq, ↓reduceIte]; done) | (simp [inB, b2i, c1, d1]; done) | (simp only [inB, b2i, c1, d1, ne_eq, not_true_eq_false, not_false_eq_true, and_true, true_and, and_false, false_and, or_true, true_or, or_false, false_or, and_self, or_self, decide_eq_true_eq, ↓reduceIte])))
  · have d1 := Int32.not_lt.mp c1
    refine lv_iload_n hx hb dX11_isIn_5 rfl (lv_at hl 0 rfl) ?_
    refine lv_iload_n hx hb dX11_isIn_6 rfl (lv_at hl 2 rfl) ?_
    refine lv_icmp_gt (tgt := 14) hx hb dX11_isIn_7 (by decide) (fun c2 => ?_) (fun c2 => ?_)
    · have d2 := Int32.not_le.mpr c2
      refine lv_iconst (v := 0) hx hb dX11_isIn_14 (by decide) ?_
      exact rd_zret S hr hlk dX11_isIn_15 (by first | rfl | exact nz_b2i _) (congrArg (fun z => some (Value.int z)) (by first | rfl | (simp only [inB, b2i, c1, d1, c2, d2, ne_eq, not_true_eq_false, not_false_eq_true, and_true, true_and, and_false, false_and, or_true, true_or, or_false, false_or, and_self, or_self, decide_eq_true_eq, ↓reduceIte]; done) | (simp [inB, b2i, c1, d1, c2, d2]; done) | (simp only [inB, b2i, c1, d1, c2, d2, ne_eq, not_true_eq_false, not_false_eq_true, and_true, true_and, and_false, false_and, or_true, true_or, or_false, false_or, and_self, or_self, decide_eq_true_eq, ↓reduceIte])))
    · have d2 := Int32.not_lt.mp c2
      refine lv_iconst (v := 1) hx hb dX11_isIn_10 (by decide) ?_
      refine lv_goto (tgt := 15) hx hb dX11_isIn_11 (by decide) ?_
      exact rd_zret S hr hlk dX11_isIn_15 (by first | rfl | exact nz_b2i _) (congrArg (fun z => some (Value.int z)) (by first | rfl | (simp only [inB, b2i, c1, d1, c2, d2, ne_eq, not_true_eq_false, not_false_eq_true, and_true, true_and, and_false, false_and, or_true, true_or, or_false, false_or, and_self, or_self, decide_eq_true_eq, ↓reduceIte]; done) | (simp [inB, b2i, c1, d1, c2, d2]; done) | (simp only [inB, b2i, c1, d1, c2, d2, ne_eq, not_true_eq_false, not_false_eq_true, and_true, true_and, and_false, false_and, or_true, true_or, or_false, false_or, and_self, or_self, decide_eq_true_eq, ↓reduceIte])))

theorem nmX11_by : nmV yX11_by RX11 2 := by decide +kernel

set_option maxHeartbeats 1000000 in
set_option maxRecDepth 100000 in
theorem c_X11_by (l : Launch) (G : GT) (H : Heap) (h : Int32) (cc : Int32) : RdV l G H yX11_by wsX11_by { frames := 0, cells := 0, slots := 0, locals := 0 } [.int h, .int cc] (some (.int (fCat h cc))) := by
  refine rd_of (cc := cX11_by) (maxL := 2) (ret := (some .int)) (by decide) rfl (Nat.le_of_ble_eq_true rfl) ?_
  intro pZ eZ sZ mZ bZ meZ cZ ls S hr hlk hl hHs hG
  have S : CallFix pZ mZ cZ cX11_by 2 sZ _ wsX11_by RX11 := S
  have hx := S.1
  have hb := S.2.1
  have hown := S.2.2.2.1
  have hts := S.2.2.2.2
  have hl : lv_has ls 2 [(0, .int h), (1, .int cc)] := hl
  refine lv_iload_n hx hb dX11_by_0 rfl (lv_at hl 0 rfl) ?_
  refine lv_iconst (v := (-1)) hx hb dX11_by_1 (by decide) ?_
  refine lv_icmp_ne (tgt := 9) hx hb dX11_by_2 (by decide) (fun c1 => ?_) (fun c1 => ?_)
  · refine lv_iload_n hx hb dX11_by_9 rfl (lv_at hl 0 rfl) ?_
    refine lv_bipush (v := 10) hx hb dX11_by_10 (by decide) ?_
    refine lv_iload_n hx hb dX11_by_12 rfl (lv_at hl 1 rfl) ?_
    refine lv_imul hx hb dX11_by_13 ?_
    refine lv_iadd hx hb dX11_by_14 ?_
    exact rd_iret S hr hlk dX11_by_15 (congrArg (fun z => some (Value.int z)) (by first | rfl | (simp only [fCat, c1, ne_eq, not_true_eq_false, not_false_eq_true, and_true, true_and, and_false, false_and, or_true, true_or, or_false, false_or, and_self, or_self, decide_eq_true_eq, ↓reduceIte]; done) | (simp [fCat, c1]; done) | (simp only [fCat, c1, ne_eq, not_true_eq_false, not_false_eq_true, and_true, true_and, and_false, false_and, or_true, true_or, or_false, false_or, and_self, or_self, decide_eq_true_eq, ↓reduceIte])))
  · refine lv_iconst (v := (-1)) hx hb dX11_by_5 (by decide) ?_
    refine lv_goto (tgt := 15) hx hb dX11_by_6 (by decide) ?_
    exact rd_iret S hr hlk dX11_by_15 (congrArg (fun z => some (Value.int z)) (by first | rfl | (simp only [fCat, c1, ne_eq, not_true_eq_false, not_false_eq_true, and_true, true_and, and_false, false_and, or_true, true_or, or_false, false_or, and_self, or_self, decide_eq_true_eq, ↓reduceIte]; done) | (simp [fCat, c1]; done) | (simp only [fCat, c1, ne_eq, not_true_eq_false, not_false_eq_true, and_true, true_and, and_false, false_and, or_true, true_or, or_false, false_or, and_self, or_self, decide_eq_true_eq, ↓reduceIte])))

theorem nmX11_isGood : nmV yX11_isGood RX11 2 := by decide +kernel

set_option maxHeartbeats 1000000 in
set_option maxRecDepth 100000 in
theorem c_X11_isGood (l : Launch) (G : GT) (B : Nat → Nat) (th : Int32) (mc : Nat → Int32) (cp : Nat → Nat) (f : Nat → Nat → Int32) (g : Nat → Nat) (H : Heap) (hM : MP G B th mc cp f g H) (a : Nat) (d : Int32) (ha : a < 3) : RdV l G H yX11_isGood wsX11_isGood { frames := 0, cells := 0, slots := 0, locals := 0 } [.ref (B 0), .int (nI a), .int d] (some (.int (b2i (mGd f a d = true)))) := by
  refine rd_of (cc := cX11_isGood) (maxL := 3) (ret := (some .boolean)) (by decide) rfl (Nat.le_of_ble_eq_true rfl) ?_
  intro pZ eZ sZ mZ bZ meZ cZ ls S hr hlk hl hHs hG
  have S : CallFix pZ mZ cZ cX11_isGood 3 sZ _ wsX11_isGood RX11 := S
  have hx := S.1
  have hb := S.2.1
  have hown := S.2.2.2.1
  have hts := S.2.2.2.2
  have hl : lv_has ls 3 [(0, .ref (B 0)), (1, .int (nI a)), (2, .int d)] := hl
  have w0 := hts (.fieldLink RX11 20 "MinimaRoomModel" "checks" "[I") (by decide +kernel)
  have iX11 : ∀ w ∈ u_ws RX11 TX11 11, w ∈ wsX11_isGood := by decide +kernel
  have hI := hM.1
  have hgb := hI.1.1
  have hg0 := hI.1.2.1
  have hg1 := hI.1.2.2.1
  have hg3 := hI.1.2.2.2.1
  have hg4 := hI.1.2.2.2.2.1
  have hg5 := hI.1.2.2.2.2.2
  refine lv_iload_n hx hb dX11_isGood_0 rfl (lv_at hl 2 rfl) ?_
  refine lv_aload_n hx hb dX11_isGood_1 rfl (lv_at hl 0 rfl) ?_
  refine rd_get (own := RX11) (x := .ref (B 2)) S hG.1 iX11 (mP_0 hM) 6 rfl (by decide) w0 rfl dX11_isGood_2 ?_
  refine lv_iload_n hx hb dX11_isGood_5 rfl (lv_at hl 1 rfl) ?_
  refine rd_iald S hG.1 (mP_2 hM) (vp_in_nI ha (by decide)) dX11_isGood_6 ?_
  refine W.eq (g2 := F0 mZ 7 ls [.int (f 16 a), .int d]) (by rw [nI_clamp (n := a) (by omega)]) ?_
  refine lv_icmp_gt (tgt := 14) hx hb dX11_isGood_7 (by decide) (fun c1 => ?_) (fun c1 => ?_)
  · have d1 := Int32.not_le.mpr c1
    refine lv_iconst (v := 0) hx hb dX11_isGood_14 (by decide) ?_
    exact rd_zret S hr hlk dX11_isGood_15 (by first | rfl | exact nz_b2i _) (congrArg (fun z => some (Value.int z)) (by first | rfl | (simp only [mGd, b2i, c1, d1, ne_eq, not_true_eq_false, not_false_eq_true, and_true, true_and, and_false, false_and, or_true, true_or, or_false, false_or, and_self, or_self, decide_eq_true_eq, ↓reduceIte]; done) | (simp [mGd, b2i, c1, d1]; done) | (simp only [mGd, b2i, c1, d1, ne_eq, not_true_eq_false, not_false_eq_true, and_true, true_and, and_false, false_and, or_true, true_or, or_false, false_or, and_self, or_self, decide_eq_true_eq, ↓reduceIte])))
  · have d1 := Int32.not_lt.mp c1
    refine lv_iconst (v := 1) hx hb dX11_isGood_10 (by decide) ?_
    refine lv_goto (tgt := 15) hx hb dX11_isGood_11 (by decide) ?_
    exact rd_zret S hr hlk dX11_isGood_15 (by first | rfl | exact nz_b2i _) (congrArg (fun z => some (Value.int z)) (by first | rfl | (simp only [mGd, b2i, c1, d1, ne_eq, not_true_eq_false, not_false_eq_true, and_true, true_and, and_false, false_and, or_true, true_or, or_false, false_or, and_self, or_self, decide_eq_true_eq, ↓reduceIte]; done) | (simp [mGd, b2i, c1, d1]; done) | (simp only [mGd, b2i, c1, d1, ne_eq, not_true_eq_false, not_false_eq_true, and_true, true_and, and_false, false_and, or_true, true_or, or_false, false_or, and_self, or_self, decide_eq_true_eq, ↓reduceIte])))

theorem nmX9_isThere : nmV yX9_isThere RX9 1 := by decide +kernel

set_option maxHeartbeats 1000000 in
set_option maxRecDepth 100000 in
theorem c_X9_isThere (l : Launch) (G : GT) (H : Heap) (o : Nat) (x y t a b : Int32) (ho : va_at G.1 vwCl (o, .inr (10, [.int x, .int y, .int t, .int a, .int b])) H) (d : Int32) : RdV l G H yX9_isThere wsX9_isThere { frames := 0, cells := 0, slots := 0, locals := 0 } [.ref o, .int d] (some (.int (b2i (thX a b d = true)))) := by
  refine rd_of (cc := cX9_isThere) (maxL := 2) (ret := (some .boolean)) (by decide) rfl (Nat.le_of_ble_eq_true rfl) ?_
  intro pZ eZ sZ mZ bZ meZ cZ ls S hr hlk hl hHs hG
  have S : CallFix pZ mZ cZ cX9_isThere 2 sZ _ wsX9_isThere RX9 := S
  have hx := S.1
  have hb := S.2.1
  have hown := S.2.2.2.1
  have hts := S.2.2.2.2
  have hl : lv_has ls 2 [(0, .ref o), (1, .int d)] := hl
  have w0 := hts (.fieldLink RX9 21 "MinimaRoomModel$Obstacle" "from" "I") (by decide +kernel)
  have w1 := hts (.fieldLink RX9 24 "MinimaRoomModel$Obstacle" "to" "I") (by decide +kernel)
  have iX9 : ∀ w ∈ u_ws RX9 TX9 5, w ∈ wsX9_isThere := by decide +kernel
  refine lv_iload_n hx hb dX9_isThere_0 rfl (lv_at hl 1 rfl) ?_
  refine lv_aload_n hx hb dX9_isThere_1 rfl (lv_at hl 0 rfl) ?_
  refine rd_get (own := RX9) (x := .int a) S hG.1 iX9 ho 3 rfl (by decide) w0 rfl dX9_isThere_2 ?_
  refine lv_icmp_lt (tgt := 28) hx hb dX9_isThere_5 (by decide) (fun c1 => ?_) (fun c1 => ?_)
  · have d1 := Int32.not_le.mpr c1
    refine lv_iconst (v := 0) hx hb dX9_isThere_28 (by decide) ?_
    exact rd_zret S hr hlk dX9_isThere_29 (by first | rfl | exact nz_b2i _) (congrArg (fun z => some (Value.int z)) (by first | rfl | (simp only [thX, b2i, c1, d1, ne_eq, not_true_eq_false, not_false_eq_true, and_true, true_and, and_false, false_and, or_true, true_or, or_false, false_or, and_self, or_self, decide_eq_true_eq, ↓reduceIte]; done) | (simp [thX, b2i, c1, d1]; done) | (simp only [thX, b2i, c1, d1, ne_eq, not_true_eq_false, not_false_eq_true, and_true, true_and, and_false, false_and, or_true, true_or, or_false, false_or, and_self, or_self, decide_eq_true_eq, ↓reduceIte])))
  · have d1 := Int32.not_lt.mp c1
    refine lv_aload_n hx hb dX9_isThere_8 rfl (lv_at hl 0 rfl) ?_
    refine rd_get (own := RX9) (x := .int b) S hG.1 iX9 ho 4 rfl (by decide) w1 rfl dX9_isThere_9 ?_
    refine lv_iconst (v := (-1)) hx hb dX9_isThere_12 (by decide) ?_
    refine lv_icmp_eq (tgt := 24) hx hb dX9_isThere_13 (by decide) (fun c2 => ?_) (fun c2 => ?_)
    · refine lv_iconst (v := 1) hx hb dX9_isThere_24 (by decide) ?_
      refine lv_goto (tgt := 29) hx hb dX9_isThere_25 (by decide) ?_
      exact rd_zret S hr hlk dX9_isThere_29 (by first | rfl | exact nz_b2i _) (congrArg (fun z => some (Value.int z)) (by first | rfl | (simp only [thX, b2i, c1, d1, c2, ne_eq, not_true_eq_false, not_false_eq_true, and_true, true_and, and_false, false_and, or_true, true_or, or_false, false_or, and_self, or_self, decide_eq_true_eq, ↓reduceIte]; done) | (simp [thX, b2i, c1, d1, c2]; done) | (simp only [thX, b2i, c1, d1, c2, ne_eq, not_true_eq_false, not_false_eq_true, and_true, true_and, and_false, false_and, or_true, true_or, or_false, false_or, and_self, or_self, decide_eq_true_eq, ↓reduceIte])))
    · refine lv_iload_n hx hb dX9_isThere_16 rfl (lv_at hl 1 rfl) ?_
      refine lv_aload_n hx hb dX9_isThere_17 rfl (lv_at hl 0 rfl) ?_
      refine rd_get (own := RX9) (x := .int b) S hG.1 iX9 ho 4 rfl (by decide) w1 rfl dX9_isThere_18 ?_
      refine lv_icmp_gt (tgt := 28) hx hb dX9_isThere_21 (by decide) (fun c3 => ?_) (fun c3 => ?_)
      · have d3 := Int32.not_le.mpr c3
        refine lv_iconst (v := 0) hx hb dX9_isThere_28 (by decide) ?_
        exact rd_zret S hr hlk dX9_isThere_29 (by first | rfl | exact nz_b2i _) (congrArg (fun z => some (Value.int z)) (by first | rfl | (simp only [thX, b2i, c1, d1, c2, c3, d3, ne_eq, not_true_eq_false, not_false_eq_true, and_true, true_and, and_false, false_and, or_true, true_or, or_false, false_or, and_self, or_self, decide_eq_true_eq, ↓reduceIte]; done) | (simp [thX, b2i, c1, d1, c2, c3, d3]; done) | (simp only [thX, b2i, c1, d1, c2, c3, d3, ne_eq, not_true_eq_false, not_false_eq_true, and_true, true_and, and_false, false_and, or_true, true_or, or_false, false_or, and_self, or_self, decide_eq_true_eq, ↓reduceIte])))
      · have d3 := Int32.not_lt.mp c3
        refine lv_iconst (v := 1) hx hb dX9_isThere_24 (by decide) ?_
        refine lv_goto (tgt := 29) hx hb dX9_isThere_25 (by decide) ?_
        exact rd_zret S hr hlk dX9_isThere_29 (by first | rfl | exact nz_b2i _) (congrArg (fun z => some (Value.int z)) (by first | rfl | (simp only [thX, b2i, c1, d1, c2, c3, d3, ne_eq, not_true_eq_false, not_false_eq_true, and_true, true_and, and_false, false_and, or_true, true_or, or_false, false_or, and_self, or_self, decide_eq_true_eq, ↓reduceIte]; done) | (simp [thX, b2i, c1, d1, c2, c3, d3]; done) | (simp only [thX, b2i, c1, d1, c2, c3, d3, ne_eq, not_true_eq_false, not_false_eq_true, and_true, true_and, and_false, false_and, or_true, true_or, or_false, false_or, and_self, or_self, decide_eq_true_eq, ↓reduceIte])))

theorem nmX9_needs : nmV yX9_needs RX9 2 := by decide +kernel

set_option maxHeartbeats 1000000 in
set_option maxRecDepth 100000 in
theorem c_X9_needs (l : Launch) (G : GT) (H : Heap) (o : Nat) (x y t a b : Int32) (ho : va_at G.1 vwCl (o, .inr (10, [.int x, .int y, .int t, .int a, .int b])) H) (mg sl : Int32) (hx0 : ¬ x < 0) : RdV l G H yX9_needs wsX9_needs { frames := 1, cells := 0, slots := 0, locals := 21 } [.ref o, .int mg, .int sl] (some (.int (mNd x y t mg sl))) := by
  refine rd_of (cc := cX9_needs) (maxL := 5) (ret := (some .int)) (by decide) rfl (Nat.le_of_ble_eq_true rfl) ?_
  intro pZ eZ sZ mZ bZ meZ cZ ls S hr hlk hl hHs hG
  have S : CallFix pZ mZ cZ cX9_needs 5 sZ _ wsX9_needs RX9 := S
  have hx := S.1
  have hb := S.2.1
  have hown := S.2.2.2.1
  have hts := S.2.2.2.2
  have hl : lv_has ls 5 [(0, .ref o), (1, .int mg), (2, .int sl)] := hl
  have w0 := hts (.fieldLink RX9 9 "MinimaRoomModel$Obstacle" "x" "I") (by decide +kernel)
  have w1 := hts (.fieldLink RX9 15 "MinimaRoomModel$Obstacle" "y" "I") (by decide +kernel)
  have w2 := hts (.fieldLink RX9 18 "MinimaRoomModel$Obstacle" "top" "I") (by decide +kernel)
  have iX9 : ∀ w ∈ u_ws RX9 TX9 5, w ∈ wsX9_needs := by decide +kernel
  have m_abs_27 : [.methodLink RX9 27 Lib.Math.abs.name, .static Lib.Math.abs.name, .initialized "java/lang/Math", .code Lib.Math.abs.name Lib.Math.abs.code 1 (some .int)] ⊆ wsX9_needs := by decide +kernel
  refine lv_iconst (v := 1) hx hb dX9_needs_0 (by decide) ?_
  refine lv_aload_n hx hb dX9_needs_1 rfl (lv_at hl 0 rfl) ?_
  refine rd_get (own := RX9) (x := .int x) S hG.1 iX9 ho 0 rfl (by decide) w0 rfl dX9_needs_2 ?_
  refine lv_bipush (v := 10) hx hb dX9_needs_5 (by decide) ?_
  refine lv_idiv hx hb dX9_needs_7 (by decide) ?_
  refine lv_iadd hx hb dX9_needs_8 ?_
  refine lv_topi (fun x1 ex1 => ?_)
  refine lv_istore_n (lv' := [(3, .int x1), (0, .ref o), (1, .int mg), (2, .int sl)]) hx hb dX9_needs_9 rfl hl (by decide) rfl (fun ls hl => ?_)
  refine lv_aload_n hx hb dX9_needs_10 rfl (lv_at hl 1 rfl) ?_
  refine rd_get (own := RX9) (x := .int y) S hG.1 iX9 ho 1 rfl (by decide) w1 rfl dX9_needs_11 ?_
  refine rd_abs S hl.1 m_abs_27 ⟨Nat.le_of_ble_eq_true rfl, Nat.le_of_ble_eq_true rfl⟩ (Nat.le_of_ble_eq_true rfl) ⟨Nat.zero_le _, Nat.zero_le _⟩ dX9_needs_14 ?_
  refine W.eq (g2 := F0 mZ 17 ls [.int (iabs y)]) rfl ?_
  refine lv_topi (fun x2 ex2 => ?_)
  refine lv_istore (lv' := [(4, .int x2), (3, .int x1), (0, .ref o), (1, .int mg), (2, .int sl)]) hx hb dX9_needs_17 hl (by decide) rfl (fun ls hl => ?_)
  refine lv_iload hx hb dX9_needs_19 (lv_at hl 0 rfl) ?_
  refine lv_iconst (v := 2) hx hb dX9_needs_21 (by decide) ?_
  refine lv_iload_n hx hb dX9_needs_22 rfl (lv_at hl 1 rfl) ?_
  refine lv_imul hx hb dX9_needs_23 ?_
  refine lv_icmp_gt (tgt := 45) hx hb dX9_needs_24 (by decide) (fun c3 => ?_) (fun c3 => ?_)
  · have d3 := Int32.not_le.mpr c3
    refine lv_iconst (v := 0) hx hb dX9_needs_45 (by decide) ?_
    exact rd_iret S hr hlk dX9_needs_46 (congrArg (fun z => some (Value.int z)) (by subst ex2; subst ex1; first | rfl | (simp only [mNd, c3, d3, ne_eq, not_true_eq_false, not_false_eq_true, and_true, true_and, and_false, false_and, or_true, true_or, or_false, false_or, and_self, or_self, decide_eq_true_eq, ↓reduceIte]; done) | (simp [mNd, c3, d3]; done) | (simp only [mNd, c3, d3, ne_eq, not_true_eq_false, not_false_eq_true, and_true, true_and, and_false, false_and, or_true, true_or, or_false, false_or, and_self, or_self, decide_eq_true_eq, ↓reduceIte])))
  · have d3 := Int32.not_lt.mp c3
    refine lv_iload_n hx hb dX9_needs_27 rfl (lv_at hl 4 rfl) ?_
    refine lv_iconst (v := (-1)) hx hb dX9_needs_28 (by decide) ?_
    refine lv_icmp_eq (tgt := 47) hx hb dX9_needs_29 (by decide) (fun c4 => ?_) (fun c4 => ?_)
    · refine lv_iload hx hb dX9_needs_47 (lv_at hl 0 rfl) ?_
      refine lv_iload_n hx hb dX9_needs_49 rfl (lv_at hl 1 rfl) ?_
      refine lv_icmp_gt (tgt := 62) hx hb dX9_needs_50 (by decide) (fun c5 => ?_) (fun c5 => ?_)
      · have d5 := Int32.not_le.mpr c5
        refine lv_aload_n hx hb dX9_needs_62 rfl (lv_at hl 2 rfl) ?_
        refine rd_get (own := RX9) (x := .int t) S hG.1 iX9 ho 2 rfl (by decide) w2 rfl dX9_needs_63 ?_
        refine lv_iload_n hx hb dX9_needs_66 rfl (lv_at hl 3 rfl) ?_
        refine lv_iconst (v := 2) hx hb dX9_needs_67 (by decide) ?_
        refine lv_iload_n hx hb dX9_needs_68 rfl (lv_at hl 1 rfl) ?_
        refine lv_imul hx hb dX9_needs_69 ?_
        refine lv_iload hx hb dX9_needs_70 (lv_at hl 0 rfl) ?_
        refine lv_isub hx hb dX9_needs_72 ?_
        refine lv_imul hx hb dX9_needs_73 ?_
        refine lv_iload_n hx hb dX9_needs_74 rfl (lv_at hl 1 rfl) ?_
        refine lv_idiv hx hb dX9_needs_75 (by rw [ex1]; exact ne_in hx0) ?_
        refine lv_iadd hx hb dX9_needs_76 ?_
        exact rd_iret S hr hlk dX9_needs_77 (congrArg (fun z => some (Value.int z)) (by subst ex2; subst ex1; first | rfl | (simp only [mNd, c3, d3, c4, c5, d5, ne_eq, not_true_eq_false, not_false_eq_true, and_true, true_and, and_false, false_and, or_true, true_or, or_false, false_or, and_self, or_self, decide_eq_true_eq, ↓reduceIte]; done) | (simp [mNd, c3, d3, c4, c5, d5]; done) | (simp only [mNd, c3, d3, c4, c5, d5, ne_eq, not_true_eq_false, not_false_eq_true, and_true, true_and, and_false, false_and, or_true, true_or, or_false, false_or, and_self, or_self, decide_eq_true_eq, ↓reduceIte])))
      · have d5 := Int32.not_lt.mp c5
        refine lv_aload_n hx hb dX9_needs_53 rfl (lv_at hl 2 rfl) ?_
        refine rd_get (own := RX9) (x := .int t) S hG.1 iX9 ho 2 rfl (by decide) w2 rfl dX9_needs_54 ?_
        refine lv_iload_n hx hb dX9_needs_57 rfl (lv_at hl 3 rfl) ?_
        refine lv_iadd hx hb dX9_needs_58 ?_
        refine lv_goto (tgt := 77) hx hb dX9_needs_59 (by decide) ?_
        exact rd_iret S hr hlk dX9_needs_77 (congrArg (fun z => some (Value.int z)) (by subst ex2; subst ex1; first | rfl | (simp only [mNd, c3, d3, c4, c5, d5, ne_eq, not_true_eq_false, not_false_eq_true, and_true, true_and, and_false, false_and, or_true, true_or, or_false, false_or, and_self, or_self, decide_eq_true_eq, ↓reduceIte]; done) | (simp [mNd, c3, d3, c4, c5, d5]; done) | (simp only [mNd, c3, d3, c4, c5, d5, ne_eq, not_true_eq_false, not_false_eq_true, and_true, true_and, and_false, false_and, or_true, true_or, or_false, false_or, and_self, or_self, decide_eq_true_eq, ↓reduceIte])))
    · refine lv_aload_n hx hb dX9_needs_32 rfl (lv_at hl 2 rfl) ?_
      refine rd_get (own := RX9) (x := .int t) S hG.1 iX9 ho 2 rfl (by decide) w2 rfl dX9_needs_33 ?_
      refine lv_aload_n hx hb dX9_needs_36 rfl (lv_at hl 2 rfl) ?_
      refine rd_get (own := RX9) (x := .int x) S hG.1 iX9 ho 0 rfl (by decide) w0 rfl dX9_needs_37 ?_
      refine lv_iload_n hx hb dX9_needs_40 rfl (lv_at hl 4 rfl) ?_
      refine lv_imul hx hb dX9_needs_41 ?_
      refine lv_icmp_gt (tgt := 47) hx hb dX9_needs_42 (by decide) (fun c6 => ?_) (fun c6 => ?_)
      · have d6 := Int32.not_le.mpr c6
        refine lv_iload hx hb dX9_needs_47 (lv_at hl 0 rfl) ?_
        refine lv_iload_n hx hb dX9_needs_49 rfl (lv_at hl 1 rfl) ?_
        refine lv_icmp_gt (tgt := 62) hx hb dX9_needs_50 (by decide) (fun c7 => ?_) (fun c7 => ?_)
        · have d7 := Int32.not_le.mpr c7
          refine lv_aload_n hx hb dX9_needs_62 rfl (lv_at hl 2 rfl) ?_
          refine rd_get (own := RX9) (x := .int t) S hG.1 iX9 ho 2 rfl (by decide) w2 rfl dX9_needs_63 ?_
          refine lv_iload_n hx hb dX9_needs_66 rfl (lv_at hl 3 rfl) ?_
          refine lv_iconst (v := 2) hx hb dX9_needs_67 (by decide) ?_
          refine lv_iload_n hx hb dX9_needs_68 rfl (lv_at hl 1 rfl) ?_
          refine lv_imul hx hb dX9_needs_69 ?_
          refine lv_iload hx hb dX9_needs_70 (lv_at hl 0 rfl) ?_
          refine lv_isub hx hb dX9_needs_72 ?_
          refine lv_imul hx hb dX9_needs_73 ?_
          refine lv_iload_n hx hb dX9_needs_74 rfl (lv_at hl 1 rfl) ?_
          refine lv_idiv hx hb dX9_needs_75 (by rw [ex1]; exact ne_in hx0) ?_
          refine lv_iadd hx hb dX9_needs_76 ?_
          exact rd_iret S hr hlk dX9_needs_77 (congrArg (fun z => some (Value.int z)) (by subst ex2; subst ex1; first | rfl | (simp only [mNd, c3, d3, c4, c6, d6, c7, d7, ne_eq, not_true_eq_false, not_false_eq_true, and_true, true_and, and_false, false_and, or_true, true_or, or_false, false_or, and_self, or_self, decide_eq_true_eq, ↓reduceIte]; done) | (simp [mNd, c3, d3, c4, c6, d6, c7, d7]; done) | (simp only [mNd, c3, d3, c4, c6, d6, c7, d7, ne_eq, not_true_eq_false, not_false_eq_true, and_true, true_and, and_false, false_and, or_true, true_or, or_false, false_or, and_self, or_self, decide_eq_true_eq, ↓reduceIte])))
        · have d7 := Int32.not_lt.mp c7
          refine lv_aload_n hx hb dX9_needs_53 rfl (lv_at hl 2 rfl) ?_
          refine rd_get (own := RX9) (x := .int t) S hG.1 iX9 ho 2 rfl (by decide) w2 rfl dX9_needs_54 ?_
          refine lv_iload_n hx hb dX9_needs_57 rfl (lv_at hl 3 rfl) ?_
          refine lv_iadd hx hb dX9_needs_58 ?_
          refine lv_goto (tgt := 77) hx hb dX9_needs_59 (by decide) ?_
          exact rd_iret S hr hlk dX9_needs_77 (congrArg (fun z => some (Value.int z)) (by subst ex2; subst ex1; first | rfl | (simp only [mNd, c3, d3, c4, c6, d6, c7, d7, ne_eq, not_true_eq_false, not_false_eq_true, and_true, true_and, and_false, false_and, or_true, true_or, or_false, false_or, and_self, or_self, decide_eq_true_eq, ↓reduceIte]; done) | (simp [mNd, c3, d3, c4, c6, d6, c7, d7]; done) | (simp only [mNd, c3, d3, c4, c6, d6, c7, d7, ne_eq, not_true_eq_false, not_false_eq_true, and_true, true_and, and_false, false_and, or_true, true_or, or_false, false_or, and_self, or_self, decide_eq_true_eq, ↓reduceIte])))
      · have d6 := Int32.not_lt.mp c6
        refine lv_iconst (v := 0) hx hb dX9_needs_45 (by decide) ?_
        exact rd_iret S hr hlk dX9_needs_46 (congrArg (fun z => some (Value.int z)) (by subst ex2; subst ex1; first | rfl | (simp only [mNd, c3, d3, c4, c6, d6, ne_eq, not_true_eq_false, not_false_eq_true, and_true, true_and, and_false, false_and, or_true, true_or, or_false, false_or, and_self, or_self, decide_eq_true_eq, ↓reduceIte]; done) | (simp [mNd, c3, d3, c4, c6, d6]; done) | (simp only [mNd, c3, d3, c4, c6, d6, ne_eq, not_true_eq_false, not_false_eq_true, and_true, true_and, and_false, false_and, or_true, true_or, or_false, false_or, and_self, or_self, decide_eq_true_eq, ↓reduceIte])))

theorem nmX9_above : nmV yX9_above RX9 1 := by decide +kernel

set_option maxHeartbeats 1000000 in
set_option maxRecDepth 100000 in
theorem c_X9_above (l : Launch) (G : GT) (H : Heap) (o : Nat) (x y t a b : Int32) (ho : va_at G.1 vwCl (o, .inr (10, [.int x, .int y, .int t, .int a, .int b])) H) (h : Int32) : RdV l G H yX9_above wsX9_above { frames := 0, cells := 0, slots := 0, locals := 0 } [.ref o, .int h] (some (.int (mAb t x h))) := by
  refine rd_of (cc := cX9_above) (maxL := 2) (ret := (some .int)) (by decide) rfl (Nat.le_of_ble_eq_true rfl) ?_
  intro pZ eZ sZ mZ bZ meZ cZ ls S hr hlk hl hHs hG
  have S : CallFix pZ mZ cZ cX9_above 2 sZ _ wsX9_above RX9 := S
  have hx := S.1
  have hb := S.2.1
  have hown := S.2.2.2.1
  have hts := S.2.2.2.2
  have hl : lv_has ls 2 [(0, .ref o), (1, .int h)] := hl
  have w0 := hts (.fieldLink RX9 18 "MinimaRoomModel$Obstacle" "top" "I") (by decide +kernel)
  have w1 := hts (.fieldLink RX9 9 "MinimaRoomModel$Obstacle" "x" "I") (by decide +kernel)
  have iX9 : ∀ w ∈ u_ws RX9 TX9 5, w ∈ wsX9_above := by decide +kernel
  refine lv_aload_n hx hb dX9_above_0 rfl (lv_at hl 0 rfl) ?_
  refine rd_get (own := RX9) (x := .int t) S hG.1 iX9 ho 2 rfl (by decide) w0 rfl dX9_above_1 ?_
  refine lv_iload_n hx hb dX9_above_4 rfl (lv_at hl 1 rfl) ?_
  refine lv_bipush (v := 30) hx hb dX9_above_5 (by decide) ?_
  refine lv_isub hx hb dX9_above_7 ?_
  refine lv_bipush (v := 25) hx hb dX9_above_8 (by decide) ?_
  refine lv_aload_n hx hb dX9_above_10 rfl (lv_at hl 0 rfl) ?_
  refine rd_get (own := RX9) (x := .int x) S hG.1 iX9 ho 0 rfl (by decide) w1 rfl dX9_above_11 ?_
  refine lv_imul hx hb dX9_above_14 ?_
  refine lv_isub hx hb dX9_above_15 ?_
  refine lv_isub hx hb dX9_above_16 ?_
  exact rd_iret S hr hlk dX9_above_17 (congrArg (fun z => some (Value.int z)) (by first | rfl | (simp only [mAb, ne_eq, not_true_eq_false, not_false_eq_true, and_true, true_and, and_false, false_and, or_true, true_or, or_false, false_or, and_self, or_self, decide_eq_true_eq, ↓reduceIte]; done) | (simp [mAb]; done) | (simp only [mAb, ne_eq, not_true_eq_false, not_false_eq_true, and_true, true_and, and_false, false_and, or_true, true_or, or_false, false_or, and_self, or_self, decide_eq_true_eq, ↓reduceIte])))

