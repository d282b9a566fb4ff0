/-! .. of obstacles, charts, notices -/
def mTh (f : Nat → Nat → Int32) (i : Nat) (d : Int32) : Bool := thX (f 13 i) (f 14 i) d
def mKi (f : Nat → Nat → Int32) (i : Nat) : Int32 := f 15 (cnt (f 17 i))
def mSl (f : Nat → Nat → Int32) (i : Nat) : Int32 := if mKi f i = 0 then f 18 i else -1
def mMg (f : Nat → Nat → Int32) (i : Nat) : Int32 := margins (cnt (mKi f i))
def atq (f : Nat → Nat → Int32) (g : Nat → Nat) (k : Nat) (d w : Int32) : Prop := k < g 1 ∧ ¬ nI k = w ∧ mTh f k d = true
theorem vp_aid {cp : Nat → Nat} {f : Nat → Nat → Int32} {g : Nat → Nat} (h : MI cp f g) {i : Nat} (hi : i < g 3) : vp_in (f 17 i) 3 := by
  obtain ⟨a, h1, h2⟩ := h.2.2.1 i hi
  rw [h2]; exact vp_in_nI h1 (by decide)
theorem vp_ki {cp : Nat → Nat} {f : Nat → Nat → Int32} {g : Nat → Nat} (h : MI cp f g) {i : Nat} (hi : i < g 3) : vp_in (mKi f i) 3 := by
  obtain ⟨a, h1, h2⟩ := h.2.2.1 i hi
  obtain ⟨k, h3, h4⟩ := h.2.2.2.1 a h1
  unfold mKi
  rw [h2, cnt_nI (by omega), h4]
  exact vp_in_nI h3 (by decide)
/-- what is demanded: with the obstacles' rows fx, of which those below n are told; with w left out -/
def dmH (fx : Nat → Nat → Int32) (f : Nat → Nat → Int32) (i N : Nat) (P : Nat → Bool) : Int32 := fl N (fun j h => if P j = true ∧ ¬ fx 10 j < 0 then imax h (mNd (fx 10 j) (fx 11 j) (fx 12 j) (mMg f i) (mSl f i)) else h) (bases (cnt (mKi f i)))
def dmA (fx : Nat → Nat → Int32) (N : Nat) (P : Nat → Bool) (h1 : Int32) : Int32 := fl N (fun j a => if P j = true ∧ fx 10 j < 0 then imax a (mAb (fx 12 j) (fx 10 j) h1) else a) 0
def dmd (fx : Nat → Nat → Int32) (f : Nat → Nat → Int32) (i N : Nat) (P : Nat → Bool) : Int32 := rUp (dmH fx f i N P + dmA fx N P (dmH fx f i N P))
/-- who is there: of the told ones -/
def pN (f : Nat → Nat → Int32) (g : Nat → Nat) (d w : Int32) (j : Nat) : Bool := decide (j < g 1 ∧ ¬ nI j = w ∧ mTh f j d = true)
/-- .. and one more behind them -/
def pM (f : Nat → Nat → Int32) (g : Nat → Nat) (d w a b : Int32) (j : Nat) : Bool := if j < g 1 then decide (¬ nI j = w ∧ mTh f j d = true) else decide (¬ nI j = w ∧ thX a b d = true)
/-- the rows with one more obstacle at n -/
def fM (f : Nat → Nat → Int32) (n : Nat) (x y t : Int32) : Nat → Nat → Int32 := fun k j => if j = n then (if k = 10 then x else if k = 11 then y else if k = 12 then t else f k j) else f k j
def chS (f : Nat → Nat → Int32) (L : List Nat) (d : Int32) : Nat → Int32
  | 0 => -1
  | n + 1 => if f 20 (L.getD n 0) ≤ d then f 21 (L.getD n 0) else chS f L d n
def mCh (f : Nat → Nat → Int32) (g : Nat → Nat) (i : Nat) (d : Int32) : Int32 := fl (amL f i (g 4)).length (fun j h => if ¬ d < f 20 ((amL f i (g 4)).getD j 0) then f 21 ((amL f i (g 4)).getD j 0) else h) (-1)
def mCo (f : Nat → Nat → Int32) (i : Nat) (d : Int32) : Nat → Nat → Bool
  | 0, _ => true
  | n + 1, k => if f 22 k = 3 ∧ f 23 k = nI i ∧ ¬ d < f 25 k then false else mCo f i d n (k + 1)
def mCt (f : Nat → Nat → Int32) (i : Nat) (d : Int32) (B : Nat) : Bool := if f 22 i = 3 ∨ d < f 25 i ∨ f 26 i < d then false else mCo f i d (B - (i + 1)) (i + 1)
def mNL (f : Nat → Nat → Int32) (i : Nat) (d ch : Int32) (B : Nat) : Nat → Nat → Int32 → Int32
  | 0, _, r => if ch = -1 then -1 else ch + r
  | n + 1, k, r => if mCt f k d B = true then (if (f 22 k = 1 ∧ f 23 k = f 17 i) ∨ (f 22 k = 2 ∧ f 23 k = nI i) then -1 else if f 22 k = 0 ∧ f 23 k = nI i then mNL f i d ch B n (k + 1) (imax r (f 24 k)) else mNL f i d ch B n (k + 1) r) else mNL f i d ch B n (k + 1) r
def mNo (f : Nat → Nat → Int32) (i : Nat) (d ch : Int32) (B : Nat) : Int32 := mNL f i d ch B B 0 0
def mIF (f : Nat → Nat → Int32) (g : Nat → Nat) (i : Nat) (d : Int32) : Int32 := if mGd f (cnt (f 17 i)) d = true then mNo f i d (mCh f g i d) (g 5) else -1
def mBl (f : Nat → Nat → Int32) (g : Nat → Nat) (c i : Nat) (d : Int32) : Int32 := if f 28 c = -1 then -1 else mNo f i d (mCh f g i (f 28 c)) (cnt (f 29 c))
def mLH (f : Nat → Nat → Int32) (g : Nat → Nat) (i : Nat) (d w : Int32) : Int32 := dmd f f i (g 1 + 1) (pN f g d w)
def mUn (f : Nat → Nat → Int32) (g : Nat → Nat) (i : Nat) (d : Int32) : Bool := decide (¬ mIF f g i d = -1 ∧ mIF f g i d < mLH f g i d (-1))
theorem nmX11_at : nmV yX11_at RX11 4 := by decide +kernel

set_option maxHeartbeats 1000000 in
set_option maxRecDepth 100000 in
theorem c_X11_at_t (l : Launch) (G : GT) (B : Nat → Nat) (th : Int32) (mc : Nat → Int32) (cp : Nat → Nat) (f : Nat → Nat → Int32) (g : Nat → Nat) (H : Heap) (hM : MP G B th mc cp f g H) (k : Nat) (d w : Int32) (hq : atq f g k d w) : RdV l G H yX11_at wsX11_at { frames := 3, cells := 0, slots := 0, locals := 64 } [.ref (B 0), .int (nI k), .int d, .int w, .null] (some (.ref (B (20 + k)))) := by
  refine rd_of (cc := cX11_at) (maxL := 6) (ret := (some (.object "MinimaRoomModel$Obstacle"))) (by decide) rfl (Nat.le_of_ble_eq_true rfl) ?_
  intro pZ eZ sZ mZ bZ meZ cZ ls S hr hlk hl hHs hG
  have S : CallFix pZ mZ cZ cX11_at 6 sZ _ wsX11_at RX11 := S
  have hx := S.1
  have hb := S.2.1
  have hown := S.2.2.2.1
  have hts := S.2.2.2.2
  have hl : lv_has ls 6 [(0, .ref (B 0)), (1, .int (nI k)), (2, .int d), (3, .int w), (4, .null)] := hl
  have w0 := hts (.fieldLink RX11 10 "MinimaRoomModel" "obstacles" "Ljava/util/ArrayList;") (by decide +kernel)
  have w1 := hts (.classLink RX11 75 "MinimaRoomModel$Obstacle") (by decide +kernel)
  have iX11 : ∀ w ∈ u_ws RX11 TX11 11, w ∈ wsX11_at := by decide +kernel
  have hI := hM.1
  have hgb := hI.1.1
  have hg0 := hI.1.2.1
  have hg1 := hI.1.2.2.1
  have hg3 := hI.1.2.2.2.1
  have hg4 := hI.1.2.2.2.2.1
  have hg5 := hI.1.2.2.2.2.2
  have hq1 := hq.1
  have hq2 := hq.2.1
  have hq4 := hq.2.2
  have hne : ¬ nI k = nI (g 1) := fun e => absurd ((nI_eq (by omega) (by omega)).mp e) (by omega)
  have hth : thX (f 13 k) (f 14 k) d = true := hq4
  refine lv_iload_n hx hb dX11_at_0 rfl (lv_at hl 1 rfl) ?_
  refine lv_aload_n hx hb dX11_at_1 rfl (lv_at hl 0 rfl) ?_
  refine rd_get (own := RX11) (x := .ref (B 5)) S hG.1 iX11 (mP_0 hM) 4 rfl (by decide) w0 rfl dX11_at_2 ?_
  refine rd_V (As := []) (rest := [.int (nI k)]) (v := some (.int (nI (g 1)))) S hG (c_Jx4a65c_size_8abf5 l G H (B 5) (eA G B cp 5 8) (mc 5) (nI (g 1)) (mP_5 hM)) gX11_at_Jx4a65c_size_8abf5 rfl ⟨rfl, rfl⟩ nmJx4a65c_size_8abf5 ⟨Nat.le_of_ble_eq_true rfl, Nat.le_of_ble_eq_true rfl⟩ (rd_rcv hG.1 (mP_5 hM) rfl) rfl hl.1 rfl (Nat.le_of_ble_eq_true rfl) ⟨Nat.zero_le _, Nat.zero_le _⟩ dX11_at_5 ?_
  refine W.eq (g2 := F0 mZ 8 ls [.int (nI (g 1)), .int (nI k)]) rfl ?_
  refine lv_icmp_ne (tgt := 16) hx hb dX11_at_8 (by decide) (fun c1 => ?_) (fun c1 => ?_)
  · refine lv_aload_n hx hb dX11_at_16 rfl (lv_at hl 0 rfl) ?_
    refine rd_get (own := RX11) (x := .ref (B 5)) S hG.1 iX11 (mP_0 hM) 4 rfl (by decide) w0 rfl dX11_at_17 ?_
    refine lv_iload_n hx hb dX11_at_20 rfl (lv_at hl 1 rfl) ?_
    refine rd_V (As := [.int (nI k)]) (rest := []) (v := some (.ref (B (20 + k)))) S hG (c_Jx4a65c_get_915e3 l G H (B 5) (eA G B cp 5 8) (mc 5) (g 1) (cp 5) (lsE B 20 (g 1)) (mP_5 hM) (mP_e5 hM (by omega)) hM.1.2.1.1 (hM.1.2.1.2.2.2.2 _) k (B (20 + k)) (by omega) (lsE_at (by omega))) gX11_at_Jx4a65c_get_915e3 rfl ⟨rfl, rfl⟩ nmJx4a65c_get_915e3 ⟨Nat.le_of_ble_eq_true rfl, Nat.le_of_ble_eq_true rfl⟩ (rd_rcv hG.1 (mP_5 hM) rfl) rfl hl.1 rfl (Nat.le_of_ble_eq_true rfl) ⟨Nat.zero_le _, Nat.zero_le _⟩ dX11_at_21 ?_
    refine W.eq (g2 := F0 mZ 24 ls [.ref (B (20 + k))]) rfl ?_
    refine rd_castS S hG.1 (mP_ob hM (i := k) (by omega)) rfl rfl w1 dX11_at_24 ?_
    refine lv_astore (lv' := [(5, .ref (B (20 + k))), (0, .ref (B 0)), (1, .int (nI k)), (2, .int d), (3, .int w), (4, .null)]) hx hb dX11_at_27 hl (by decide) rfl (fun ls hl => ?_)
    refine lv_aload hx hb dX11_at_29 (lv_at hl 0 rfl) ?_
    refine lv_ifnull hx hb dX11_at_31 ?_
    refine lv_iload_n hx hb dX11_at_34 rfl (lv_at hl 2 rfl) ?_
    refine lv_iload_n hx hb dX11_at_35 rfl (lv_at hl 4 rfl) ?_
    refine lv_icmp_eq (tgt := 48) hx hb dX11_at_36 (by decide) (fun c2 => ?_) (fun c2 => ?_)
    · first | exact absurd c2 hq2 | exact absurd hq2 c2 | exact absurd (Int32.not_lt.mp c2) (Int32.not_le.mpr hq2) | exact absurd (Int32.not_lt.mpr c2) (by simp only [Int32.not_lt]; exact hq2)
    · refine lv_aload hx hb dX11_at_39 (lv_at hl 0 rfl) ?_
      refine lv_iload_n hx hb dX11_at_41 rfl (lv_at hl 3 rfl) ?_
      refine rd_V (As := [.int d]) (rest := []) (v := some (.int (b2i (thX (f 13 k) (f 14 k) d = true)))) S hG (c_X9_isThere l G H (B (20 + k)) (f 10 k) (f 11 k) (f 12 k) (f 13 k) (f 14 k) (mP_ob hM (i := k) (by omega)) d) gX11_at_X9_isThere rfl ⟨rfl, rfl⟩ nmX9_isThere ⟨Nat.le_of_ble_eq_true rfl, Nat.le_of_ble_eq_true rfl⟩ (rd_rcv hG.1 (mP_ob hM (i := k) (by omega)) rfl) rfl hl.1 rfl (Nat.le_of_ble_eq_true rfl) ⟨Nat.zero_le _, Nat.zero_le _⟩ dX11_at_42 ?_
      refine W.eq (g2 := F0 mZ 45 ls [.int (b2i (thX (f 13 k) (f 14 k) d = true))]) rfl ?_
      refine lv_if_ne (tgt := 52) hx hb dX11_at_45 (by decide) (fun c3 => ?_) (fun c3 => ?_)
      · have c3 := b2i_nz.mp c3
        refine lv_aload hx hb dX11_at_52 (lv_at hl 0 rfl) ?_
        exact rd_aret S hr hlk (by first | exact Or.inl ⟨_, rfl⟩ | exact Or.inr ⟨_, rfl⟩) (by first | exact Or.inl rfl | exact Or.inr ⟨_, rfl⟩) dX11_at_54 (by first | rfl | (simp only [hne, hq2, hth, c1, c2, c3, ne_eq, not_true_eq_false, not_false_eq_true, and_true, true_and, and_false, false_and, or_true, true_or, or_false, false_or, and_self, or_self, decide_eq_true_eq, ↓reduceIte]; done) | (simp [hne, hq2, hth, c1, c2, c3]; done) | (simp only [hne, hq2, hth, c1, c2, c3, ne_eq, not_true_eq_false, not_false_eq_true, and_true, true_and, and_false, false_and, or_true, true_or, or_false, false_or, and_self, or_self, decide_eq_true_eq, ↓reduceIte]))
      · have c3 := b2i_z.mp c3
        first | exact absurd c3 hth | exact absurd hth c3 | exact absurd (Int32.not_lt.mp c3) (Int32.not_le.mpr hth) | exact absurd (Int32.not_lt.mpr c3) (by simp only [Int32.not_lt]; exact hth)
  · first | exact absurd c1 hne | exact absurd hne c1 | exact absurd (Int32.not_lt.mp c1) (Int32.not_le.mpr hne) | exact absurd (Int32.not_lt.mpr c1) (by simp only [Int32.not_lt]; exact hne)


set_option maxHeartbeats 1000000 in
set_option maxRecDepth 100000 in
theorem c_X11_at_f (l : Launch) (G : GT) (B : Nat → Nat) (th : Int32) (mc : Nat → Int32) (cp : Nat → Nat) (f : Nat → Nat → Int32) (g : Nat → Nat) (H : Heap) (hM : MP G B th mc cp f g H) (k : Nat) (d w : Int32) (hk : k ≤ g 1) (hq : ¬ atq f g k d w) : RdV l G H yX11_at wsX11_at { frames := 3, cells := 0, slots := 0, locals := 64 } [.ref (B 0), .int (nI k), .int d, .int w, .null] (some (.null)) := by
  refine rd_of (cc := cX11_at) (maxL := 6) (ret := (some (.object "MinimaRoomModel$Obstacle"))) (by decide) rfl (Nat.le_of_ble_eq_true rfl) ?_
  intro pZ eZ sZ mZ bZ meZ cZ ls S hr hlk hl hHs hG
  have S : CallFix pZ mZ cZ cX11_at 6 sZ _ wsX11_at RX11 := S
  have hx := S.1
  have hb := S.2.1
  have hown := S.2.2.2.1
  have hts := S.2.2.2.2
  have hl : lv_has ls 6 [(0, .ref (B 0)), (1, .int (nI k)), (2, .int d), (3, .int w), (4, .null)] := hl
  have w0 := hts (.fieldLink RX11 10 "MinimaRoomModel" "obstacles" "Ljava/util/ArrayList;") (by decide +kernel)
  have w1 := hts (.classLink RX11 75 "MinimaRoomModel$Obstacle") (by decide +kernel)
  have iX11 : ∀ w ∈ u_ws RX11 TX11 11, w ∈ wsX11_at := by decide +kernel
  have hI := hM.1
  have hgb := hI.1.1
  have hg0 := hI.1.2.1
  have hg1 := hI.1.2.2.1
  have hg3 := hI.1.2.2.2.1
  have hg4 := hI.1.2.2.2.2.1
  have hg5 := hI.1.2.2.2.2.2
  refine lv_iload_n hx hb dX11_at_0 rfl (lv_at hl 1 rfl) ?_
  refine lv_aload_n hx hb dX11_at_1 rfl (lv_at hl 0 rfl) ?_
  refine rd_get (own := RX11) (x := .ref (B 5)) S hG.1 iX11 (mP_0 hM) 4 rfl (by decide) w0 rfl dX11_at_2 ?_
  refine rd_V (As := []) (rest := [.int (nI k)]) (v := some (.int (nI (g 1)))) S hG (c_Jx4a65c_size_8abf5 l G H (B 5) (eA G B cp 5 8) (mc 5) (nI (g 1)) (mP_5 hM)) gX11_at_Jx4a65c_size_8abf5 rfl ⟨rfl, rfl⟩ nmJx4a65c_size_8abf5 ⟨Nat.le_of_ble_eq_true rfl, Nat.le_of_ble_eq_true rfl⟩ (rd_rcv hG.1 (mP_5 hM) rfl) rfl hl.1 rfl (Nat.le_of_ble_eq_true rfl) ⟨Nat.zero_le _, Nat.zero_le _⟩ dX11_at_5 ?_
  refine W.eq (g2 := F0 mZ 8 ls [.int (nI (g 1)), .int (nI k)]) rfl ?_
  refine lv_icmp_ne (tgt := 16) hx hb dX11_at_8 (by decide) (fun c1 => ?_) (fun c1 => ?_)
  · have hkk : k < g 1 := Nat.lt_of_le_of_ne hk (fun e => c1 (congrArg nI e))
    refine lv_aload_n hx hb dX11_at_16 rfl (lv_at hl 0 rfl) ?_
    refine rd_get (own := RX11) (x := .ref (B 5)) S hG.1 iX11 (mP_0 hM) 4 rfl (by decide) w0 rfl dX11_at_17 ?_
    refine lv_iload_n hx hb dX11_at_20 rfl (lv_at hl 1 rfl) ?_
    refine rd_V (As := [.int (nI k)]) (rest := []) (v := some (.ref (B (20 + k)))) S hG (c_Jx4a65c_get_915e3 l G H (B 5) (eA G B cp 5 8) (mc 5) (g 1) (cp 5) (lsE B 20 (g 1)) (mP_5 hM) (mP_e5 hM (by omega)) hM.1.2.1.1 (hM.1.2.1.2.2.2.2 _) k (B (20 + k)) (by omega) (lsE_at (by omega))) gX11_at_Jx4a65c_get_915e3 rfl ⟨rfl, rfl⟩ nmJx4a65c_get_915e3 ⟨Nat.le_of_ble_eq_true rfl, Nat.le_of_ble_eq_true rfl⟩ (rd_rcv hG.1 (mP_5 hM) rfl) rfl hl.1 rfl (Nat.le_of_ble_eq_true rfl) ⟨Nat.zero_le _, Nat.zero_le _⟩ dX11_at_21 ?_
    refine W.eq (g2 := F0 mZ 24 ls [.ref (B (20 + k))]) rfl ?_
    refine rd_castS S hG.1 (mP_ob hM (i := k) (by omega)) rfl rfl w1 dX11_at_24 ?_
    refine lv_astore (lv' := [(5, .ref (B (20 + k))), (0, .ref (B 0)), (1, .int (nI k)), (2, .int d), (3, .int w), (4, .null)]) hx hb dX11_at_27 hl (by decide) rfl (fun ls hl => ?_)
    refine lv_aload hx hb dX11_at_29 (lv_at hl 0 rfl) ?_
    refine lv_ifnull hx hb dX11_at_31 ?_
    refine lv_iload_n hx hb dX11_at_34 rfl (lv_at hl 2 rfl) ?_
    refine lv_iload_n hx hb dX11_at_35 rfl (lv_at hl 4 rfl) ?_
    refine lv_icmp_eq (tgt := 48) hx hb dX11_at_36 (by decide) (fun c2 => ?_) (fun c2 => ?_)
    · refine lv_null hx hb dX11_at_48 ?_
      refine lv_goto (tgt := 54) hx hb dX11_at_49 (by decide) ?_
      exact rd_aret S hr hlk (by first | exact Or.inl ⟨_, rfl⟩ | exact Or.inr ⟨_, rfl⟩) (by first | exact Or.inl rfl | exact Or.inr ⟨_, rfl⟩) dX11_at_54 (by rfl)
    · refine lv_aload hx hb dX11_at_39 (lv_at hl 0 rfl) ?_
      refine lv_iload_n hx hb dX11_at_41 rfl (lv_at hl 3 rfl) ?_
      refine rd_V (As := [.int d]) (rest := []) (v := some (.int (b2i (thX (f 13 k) (f 14 k) d = true)))) S hG (c_X9_isThere l G H (B (20 + k)) (f 10 k) (f 11 k) (f 12 k) (f 13 k) (f 14 k) (mP_ob hM (i := k) (by omega)) d) gX11_at_X9_isThere rfl ⟨rfl, rfl⟩ nmX9_isThere ⟨Nat.le_of_ble_eq_true rfl, Nat.le_of_ble_eq_true rfl⟩ (rd_rcv hG.1 (mP_ob hM (i := k) (by omega)) rfl) rfl hl.1 rfl (Nat.le_of_ble_eq_true rfl) ⟨Nat.zero_le _, Nat.zero_le _⟩ dX11_at_42 ?_
      refine W.eq (g2 := F0 mZ 45 ls [.int (b2i (thX (f 13 k) (f 14 k) d = true))]) rfl ?_
      refine lv_if_ne (tgt := 52) hx hb dX11_at_45 (by decide) (fun c3 => ?_) (fun c3 => ?_)
      · have c3 := b2i_nz.mp c3
        refine lv_aload hx hb dX11_at_52 (lv_at hl 0 rfl) ?_
        exact rd_aret S hr hlk (by first | exact Or.inl ⟨_, rfl⟩ | exact Or.inr ⟨_, rfl⟩) (by first | exact Or.inl rfl | exact Or.inr ⟨_, rfl⟩) dX11_at_54 (by exact absurd ⟨hkk, c2, c3⟩ hq)
      · have c3 := b2i_z.mp c3
        refine lv_null hx hb dX11_at_48 ?_
        refine lv_goto (tgt := 54) hx hb dX11_at_49 (by decide) ?_
        exact rd_aret S hr hlk (by first | exact Or.inl ⟨_, rfl⟩ | exact Or.inr ⟨_, rfl⟩) (by first | exact Or.inl rfl | exact Or.inr ⟨_, rfl⟩) dX11_at_54 (by rfl)
  · refine lv_aloadN hx hb dX11_at_11 (lv_at hl 4 rfl) ?_
    refine lv_goto (tgt := 27) hx hb dX11_at_13 (by decide) ?_
    refine lv_astoreN (lv' := [(5, .null), (0, .ref (B 0)), (1, .int (nI k)), (2, .int d), (3, .int w), (4, .null)]) hx hb dX11_at_27 hl (by decide) rfl (fun ls hl => ?_)
    refine lv_aloadN hx hb dX11_at_29 (lv_at hl 0 rfl) ?_
    refine lv_ifnullN (tgt := 48) hx hb dX11_at_31 (by decide) ?_
    refine lv_null hx hb dX11_at_48 ?_
    refine lv_goto (tgt := 54) hx hb dX11_at_49 (by decide) ?_
    exact rd_aret S hr hlk (by first | exact Or.inl ⟨_, rfl⟩ | exact Or.inr ⟨_, rfl⟩) (by first | exact Or.inl rfl | exact Or.inr ⟨_, rfl⟩) dX11_at_54 (by rfl)


set_option maxHeartbeats 1000000 in
set_option maxRecDepth 100000 in
theorem c_X11_at_st (l : Launch) (G : GT) (B : Nat → Nat) (th : Int32) (mc : Nat → Int32) (cp : Nat → Nat) (f : Nat → Nat → Int32) (g : Nat → Nat) (H : Heap) (hM : MP G B th mc cp f g H) (o : Nat) (x y t a b : Int32) (ho : va_at G.1 vwCl (o, .inr (10, [.int x, .int y, .int t, .int a, .int b])) H) (k : Nat) (d w : Int32) (hq : atq f g k d w) : RdV l G H yX11_at wsX11_at { frames := 3, cells := 0, slots := 0, locals := 64 } [.ref (B 0), .int (nI k), .int d, .int w, .ref o] (some (.ref (B (20 + k)))) := by
  refine rd_of (cc := cX11_at) (maxL := 6) (ret := (some (.object "MinimaRoomModel$Obstacle"))) (by decide) rfl (Nat.le_of_ble_eq_true rfl) ?_
  intro pZ eZ sZ mZ bZ meZ cZ ls S hr hlk hl hHs hG
  have S : CallFix pZ mZ cZ cX11_at 6 sZ _ wsX11_at RX11 := S
  have hx := S.1
  have hb := S.2.1
  have hown := S.2.2.2.1
  have hts := S.2.2.2.2
  have hl : lv_has ls 6 [(0, .ref (B 0)), (1, .int (nI k)), (2, .int d), (3, .int w), (4, .ref o)] := hl
  have w0 := hts (.fieldLink RX11 10 "MinimaRoomModel" "obstacles" "Ljava/util/ArrayList;") (by decide +kernel)
  have w1 := hts (.classLink RX11 75 "MinimaRoomModel$Obstacle") (by decide +kernel)
  have iX11 : ∀ w ∈ u_ws RX11 TX11 11, w ∈ wsX11_at := by decide +kernel
  have hI := hM.1
  have hgb := hI.1.1
  have hg0 := hI.1.2.1
  have hg1 := hI.1.2.2.1
  have hg3 := hI.1.2.2.2.1
  have hg4 := hI.1.2.2.2.2.1
  have hg5 := hI.1.2.2.2.2.2
  have hq1 := hq.1
  have hq2 := hq.2.1
  have hq4 := hq.2.2
  have hne : ¬ nI k = nI (g 1) := fun e => absurd ((nI_eq (by omega) (by omega)).mp e) (by omega)
  have hth : thX (f 13 k) (f 14 k) d = true := hq4
  refine lv_iload_n hx hb dX11_at_0 rfl (lv_at hl 1 rfl) ?_
  refine lv_aload_n hx hb dX11_at_1 rfl (lv_at hl 0 rfl) ?_
  refine rd_get (own := RX11) (x := .ref (B 5)) S hG.1 iX11 (mP_0 hM) 4 rfl (by decide) w0 rfl dX11_at_2 ?_
  refine rd_V (As := []) (rest := [.int (nI k)]) (v := some (.int (nI (g 1)))) S hG (c_Jx4a65c_size_8abf5 l G H (B 5) (eA G B cp 5 8) (mc 5) (nI (g 1)) (mP_5 hM)) gX11_at_Jx4a65c_size_8abf5 rfl ⟨rfl, rfl⟩ nmJx4a65c_size_8abf5 ⟨Nat.le_of_ble_eq_true rfl, Nat.le_of_ble_eq_true rfl⟩ (rd_rcv hG.1 (mP_5 hM) rfl) rfl hl.1 rfl (Nat.le_of_ble_eq_true rfl) ⟨Nat.zero_le _, Nat.zero_le _⟩ dX11_at_5 ?_
  refine W.eq (g2 := F0 mZ 8 ls [.int (nI (g 1)), .int (nI k)]) rfl ?_
  refine lv_icmp_ne (tgt := 16) hx hb dX11_at_8 (by decide) (fun c1 => ?_) (fun c1 => ?_)
  · refine lv_aload_n hx hb dX11_at_16 rfl (lv_at hl 0 rfl) ?_
    refine rd_get (own := RX11) (x := .ref (B 5)) S hG.1 iX11 (mP_0 hM) 4 rfl (by decide) w0 rfl dX11_at_17 ?_
    refine lv_iload_n hx hb dX11_at_20 rfl (lv_at hl 1 rfl) ?_
    refine rd_V (As := [.int (nI k)]) (rest := []) (v := some (.ref (B (20 + k)))) S hG (c_Jx4a65c_get_915e3 l G H (B 5) (eA G B cp 5 8) (mc 5) (g 1) (cp 5) (lsE B 20 (g 1)) (mP_5 hM) (mP_e5 hM (by omega)) hM.1.2.1.1 (hM.1.2.1.2.2.2.2 _) k (B (20 + k)) (by omega) (lsE_at (by omega))) gX11_at_Jx4a65c_get_915e3 rfl ⟨rfl, rfl⟩ nmJx4a65c_get_915e3 ⟨Nat.le_of_ble_eq_true rfl, Nat.le_of_ble_eq_true rfl⟩ (rd_rcv hG.1 (mP_5 hM) rfl) rfl hl.1 rfl (Nat.le_of_ble_eq_true rfl) ⟨Nat.zero_le _, Nat.zero_le _⟩ dX11_at_21 ?_
    refine W.eq (g2 := F0 mZ 24 ls [.ref (B (20 + k))]) rfl ?_
    refine rd_castS S hG.1 (mP_ob hM (i := k) (by omega)) rfl rfl w1 dX11_at_24 ?_
    refine lv_astore (lv' := [(5, .ref (B (20 + k))), (0, .ref (B 0)), (1, .int (nI k)), (2, .int d), (3, .int w), (4, .ref o)]) hx hb dX11_at_27 hl (by decide) rfl (fun ls hl => ?_)
    refine lv_aload hx hb dX11_at_29 (lv_at hl 0 rfl) ?_
    refine lv_ifnull hx hb dX11_at_31 ?_
    refine lv_iload_n hx hb dX11_at_34 rfl (lv_at hl 2 rfl) ?_
    refine lv_iload_n hx hb dX11_at_35 rfl (lv_at hl 4 rfl) ?_
    refine lv_icmp_eq (tgt := 48) hx hb dX11_at_36 (by decide) (fun c2 => ?_) (fun c2 => ?_)
    · first | exact absurd c2 hq2 | exact absurd hq2 c2 | exact absurd (Int32.not_lt.mp c2) (Int32.not_le.mpr hq2) | exact absurd (Int32.not_lt.mpr c2) (by simp only [Int32.not_lt]; exact hq2)
    · refine lv_aload hx hb dX11_at_39 (lv_at hl 0 rfl) ?_
      refine lv_iload_n hx hb dX11_at_41 rfl (lv_at hl 3 rfl) ?_
      refine rd_V (As := [.int d]) (rest := []) (v := some (.int (b2i (thX (f 13 k) (f 14 k) d = true)))) S hG (c_X9_isThere l G H (B (20 + k)) (f 10 k) (f 11 k) (f 12 k) (f 13 k) (f 14 k) (mP_ob hM (i := k) (by omega)) d) gX11_at_X9_isThere rfl ⟨rfl, rfl⟩ nmX9_isThere ⟨Nat.le_of_ble_eq_true rfl, Nat.le_of_ble_eq_true rfl⟩ (rd_rcv hG.1 (mP_ob hM (i := k) (by omega)) rfl) rfl hl.1 rfl (Nat.le_of_ble_eq_true rfl) ⟨Nat.zero_le _, Nat.zero_le _⟩ dX11_at_42 ?_
      refine W.eq (g2 := F0 mZ 45 ls [.int (b2i (thX (f 13 k) (f 14 k) d = true))]) rfl ?_
      refine lv_if_ne (tgt := 52) hx hb dX11_at_45 (by decide) (fun c3 => ?_) (fun c3 => ?_)
      · have c3 := b2i_nz.mp c3
        refine lv_aload hx hb dX11_at_52 (lv_at hl 0 rfl) ?_
        exact rd_aret S hr hlk (by first | exact Or.inl ⟨_, rfl⟩ | exact Or.inr ⟨_, rfl⟩) (by first | exact Or.inl rfl | exact Or.inr ⟨_, rfl⟩) dX11_at_54 (by first | rfl | (simp only [hne, hq2, hth, c1, c2, c3, ne_eq, not_true_eq_false, not_false_eq_true, and_true, true_and, and_false, false_and, or_true, true_or, or_false, false_or, and_self, or_self, decide_eq_true_eq, ↓reduceIte]; done) | (simp [hne, hq2, hth, c1, c2, c3]; done) | (simp only [hne, hq2, hth, c1, c2, c3, ne_eq, not_true_eq_false, not_false_eq_true, and_true, true_and, and_false, false_and, or_true, true_or, or_false, false_or, and_self, or_self, decide_eq_true_eq, ↓reduceIte]))
      · have c3 := b2i_z.mp c3
        first | exact absurd c3 hth | exact absurd hth c3 | exact absurd (Int32.not_lt.mp c3) (Int32.not_le.mpr hth) | exact absurd (Int32.not_lt.mpr c3) (by simp only [Int32.not_lt]; exact hth)
  · first | exact absurd c1 hne | exact absurd hne c1 | exact absurd (Int32.not_lt.mp c1) (Int32.not_le.mpr hne) | exact absurd (Int32.not_lt.mpr c1) (by simp only [Int32.not_lt]; exact hne)


set_option maxHeartbeats 1000000 in
set_option maxRecDepth 100000 in
theorem c_X11_at_sf (l : Launch) (G : GT) (B : Nat → Nat) (th : Int32) (mc : Nat → Int32) (cp : Nat → Nat) (f : Nat → Nat → Int32) (g : Nat → Nat) (H : Heap) (hM : MP G B th mc cp f g H) (o : Nat) (x y t a b : Int32) (ho : va_at G.1 vwCl (o, .inr (10, [.int x, .int y, .int t, .int a, .int b])) H) (k : Nat) (d w : Int32) (hkk : k < g 1) (hq : ¬ atq f g k d w) : RdV l G H yX11_at wsX11_at { frames := 3, cells := 0, slots := 0, locals := 64 } [.ref (B 0), .int (nI k), .int d, .int w, .ref o] (some (.null)) := by
  refine rd_of (cc := cX11_at) (maxL := 6) (ret := (some (.object "MinimaRoomModel$Obstacle"))) (by decide) rfl (Nat.le_of_ble_eq_true rfl) ?_
  intro pZ eZ sZ mZ bZ meZ cZ ls S hr hlk hl hHs hG
  have S : CallFix pZ mZ cZ cX11_at 6 sZ _ wsX11_at RX11 := S
  have hx := S.1
  have hb := S.2.1
  have hown := S.2.2.2.1
  have hts := S.2.2.2.2
  have hl : lv_has ls 6 [(0, .ref (B 0)), (1, .int (nI k)), (2, .int d), (3, .int w), (4, .ref o)] := hl
  have w0 := hts (.fieldLink RX11 10 "MinimaRoomModel" "obstacles" "Ljava/util/ArrayList;") (by decide +kernel)
  have w1 := hts (.classLink RX11 75 "MinimaRoomModel$Obstacle") (by decide +kernel)
  have iX11 : ∀ w ∈ u_ws RX11 TX11 11, w ∈ wsX11_at := by decide +kernel
  have hI := hM.1
  have hgb := hI.1.1
  have hg0 := hI.1.2.1
  have hg1 := hI.1.2.2.1
  have hg3 := hI.1.2.2.2.1
  have hg4 := hI.1.2.2.2.2.1
  have hg5 := hI.1.2.2.2.2.2
  have hne : ¬ nI k = nI (g 1) := fun e => absurd ((nI_eq (by omega) (by omega)).mp e) (by omega)
  refine lv_iload_n hx hb dX11_at_0 rfl (lv_at hl 1 rfl) ?_
  refine lv_aload_n hx hb dX11_at_1 rfl (lv_at hl 0 rfl) ?_
  refine rd_get (own := RX11) (x := .ref (B 5)) S hG.1 iX11 (mP_0 hM) 4 rfl (by decide) w0 rfl dX11_at_2 ?_
  refine rd_V (As := []) (rest := [.int (nI k)]) (v := some (.int (nI (g 1)))) S hG (c_Jx4a65c_size_8abf5 l G H (B 5) (eA G B cp 5 8) (mc 5) (nI (g 1)) (mP_5 hM)) gX11_at_Jx4a65c_size_8abf5 rfl ⟨rfl, rfl⟩ nmJx4a65c_size_8abf5 ⟨Nat.le_of_ble_eq_true rfl, Nat.le_of_ble_eq_true rfl⟩ (rd_rcv hG.1 (mP_5 hM) rfl) rfl hl.1 rfl (Nat.le_of_ble_eq_true rfl) ⟨Nat.zero_le _, Nat.zero_le _⟩ dX11_at_5 ?_
  refine W.eq (g2 := F0 mZ 8 ls [.int (nI (g 1)), .int (nI k)]) rfl ?_
  refine lv_icmp_ne (tgt := 16) hx hb dX11_at_8 (by decide) (fun c1 => ?_) (fun c1 => ?_)
  · refine lv_aload_n hx hb dX11_at_16 rfl (lv_at hl 0 rfl) ?_
    refine rd_get (own := RX11) (x := .ref (B 5)) S hG.1 iX11 (mP_0 hM) 4 rfl (by decide) w0 rfl dX11_at_17 ?_
    refine lv_iload_n hx hb dX11_at_20 rfl (lv_at hl 1 rfl) ?_
    refine rd_V (As := [.int (nI k)]) (rest := []) (v := some (.ref (B (20 + k)))) S hG (c_Jx4a65c_get_915e3 l G H (B 5) (eA G B cp 5 8) (mc 5) (g 1) (cp 5) (lsE B 20 (g 1)) (mP_5 hM) (mP_e5 hM (by omega)) hM.1.2.1.1 (hM.1.2.1.2.2.2.2 _) k (B (20 + k)) (by omega) (lsE_at (by omega))) gX11_at_Jx4a65c_get_915e3 rfl ⟨rfl, rfl⟩ nmJx4a65c_get_915e3 ⟨Nat.le_of_ble_eq_true rfl, Nat.le_of_ble_eq_true rfl⟩ (rd_rcv hG.1 (mP_5 hM) rfl) rfl hl.1 rfl (Nat.le_of_ble_eq_true rfl) ⟨Nat.zero_le _, Nat.zero_le _⟩ dX11_at_21 ?_
    refine W.eq (g2 := F0 mZ 24 ls [.ref (B (20 + k))]) rfl ?_
    refine rd_castS S hG.1 (mP_ob hM (i := k) (by omega)) rfl rfl w1 dX11_at_24 ?_
    refine lv_astore (lv' := [(5, .ref (B (20 + k))), (0, .ref (B 0)), (1, .int (nI k)), (2, .int d), (3, .int w), (4, .ref o)]) hx hb dX11_at_27 hl (by decide) rfl (fun ls hl => ?_)
    refine lv_aload hx hb dX11_at_29 (lv_at hl 0 rfl) ?_
    refine lv_ifnull hx hb dX11_at_31 ?_
    refine lv_iload_n hx hb dX11_at_34 rfl (lv_at hl 2 rfl) ?_
    refine lv_iload_n hx hb dX11_at_35 rfl (lv_at hl 4 rfl) ?_
    refine lv_icmp_eq (tgt := 48) hx hb dX11_at_36 (by decide) (fun c2 => ?_) (fun c2 => ?_)
    · refine lv_null hx hb dX11_at_48 ?_
      refine lv_goto (tgt := 54) hx hb dX11_at_49 (by decide) ?_
      exact rd_aret S hr hlk (by first | exact Or.inl ⟨_, rfl⟩ | exact Or.inr ⟨_, rfl⟩) (by first | exact Or.inl rfl | exact Or.inr ⟨_, rfl⟩) dX11_at_54 (by rfl)
    · refine lv_aload hx hb dX11_at_39 (lv_at hl 0 rfl) ?_
      refine lv_iload_n hx hb dX11_at_41 rfl (lv_at hl 3 rfl) ?_
      refine rd_V (As := [.int d]) (rest := []) (v := some (.int (b2i (thX (f 13 k) (f 14 k) d = true)))) S hG (c_X9_isThere l G H (B (20 + k)) (f 10 k) (f 11 k) (f 12 k) (f 13 k) (f 14 k) (mP_ob hM (i := k) (by omega)) d) gX11_at_X9_isThere rfl ⟨rfl, rfl⟩ nmX9_isThere ⟨Nat.le_of_ble_eq_true rfl, Nat.le_of_ble_eq_true rfl⟩ (rd_rcv hG.1 (mP_ob hM (i := k) (by omega)) rfl) rfl hl.1 rfl (Nat.le_of_ble_eq_true rfl) ⟨Nat.zero_le _, Nat.zero_le _⟩ dX11_at_42 ?_
      refine W.eq (g2 := F0 mZ 45 ls [.int (b2i (thX (f 13 k) (f 14 k) d = true))]) rfl ?_
      refine lv_if_ne (tgt := 52) hx hb dX11_at_45 (by decide) (fun c3 => ?_) (fun c3 => ?_)
      · have c3 := b2i_nz.mp c3
        refine lv_aload hx hb dX11_at_52 (lv_at hl 0 rfl) ?_
        exact rd_aret S hr hlk (by first | exact Or.inl ⟨_, rfl⟩ | exact Or.inr ⟨_, rfl⟩) (by first | exact Or.inl rfl | exact Or.inr ⟨_, rfl⟩) dX11_at_54 (by exact absurd ⟨hkk, c2, c3⟩ hq)
      · have c3 := b2i_z.mp c3
        refine lv_null hx hb dX11_at_48 ?_
        refine lv_goto (tgt := 54) hx hb dX11_at_49 (by decide) ?_
        exact rd_aret S hr hlk (by first | exact Or.inl ⟨_, rfl⟩ | exact Or.inr ⟨_, rfl⟩) (by first | exact Or.inl rfl | exact Or.inr ⟨_, rfl⟩) dX11_at_54 (by rfl)
  · first | exact absurd c1 hne | exact absurd hne c1 | exact absurd (Int32.not_lt.mp c1) (Int32.not_le.mpr hne) | exact absurd (Int32.not_lt.mpr c1) (by simp only [Int32.not_lt]; exact hne)


set_option maxHeartbeats 1000000 in
set_option maxRecDepth 100000 in
theorem c_X11_at_ot (l : Launch) (G : GT) (B : Nat → Nat) (th : Int32) (mc : Nat → Int32) (cp : Nat → Nat) (f : Nat → Nat → Int32) (g : Nat → Nat) (H : Heap) (hM : MP G B th mc cp f g H) (o : Nat) (x y t a b : Int32) (ho : va_at G.1 vwCl (o, .inr (10, [.int x, .int y, .int t, .int a, .int b])) H) (d w : Int32) (hq1 : ¬ nI (g 1) = w) (hq2 : thX a b d = true) : RdV l G H yX11_at wsX11_at { frames := 1, cells := 0, slots := 0, locals := 21 } [.ref (B 0), .int (nI (g 1)), .int d, .int w, .ref o] (some (.ref o)) := by
  refine rd_of (cc := cX11_at) (maxL := 6) (ret := (some (.object "MinimaRoomModel$Obstacle"))) (by decide) rfl (Nat.le_of_ble_eq_true rfl) ?_
  intro pZ eZ sZ mZ bZ meZ cZ ls S hr hlk hl hHs hG
  have S : CallFix pZ mZ cZ cX11_at 6 sZ _ wsX11_at RX11 := S
  have hx := S.1
  have hb := S.2.1
  have hown := S.2.2.2.1
  have hts := S.2.2.2.2
  have hl : lv_has ls 6 [(0, .ref (B 0)), (1, .int (nI (g 1))), (2, .int d), (3, .int w), (4, .ref o)] := hl
  have w0 := hts (.fieldLink RX11 10 "MinimaRoomModel" "obstacles" "Ljava/util/ArrayList;") (by decide +kernel)
  have iX11 : ∀ w ∈ u_ws RX11 TX11 11, w ∈ wsX11_at := by decide +kernel
  have hI := hM.1
  have hgb := hI.1.1
  have hg0 := hI.1.2.1
  have hg1 := hI.1.2.2.1
  have hg3 := hI.1.2.2.2.1
  have hg4 := hI.1.2.2.2.2.1
  have hg5 := hI.1.2.2.2.2.2
  have hne : nI (g 1) = nI (g 1) := rfl
  refine lv_iload_n hx hb dX11_at_0 rfl (lv_at hl 1 rfl) ?_
  refine lv_aload_n hx hb dX11_at_1 rfl (lv_at hl 0 rfl) ?_
  refine rd_get (own := RX11) (x := .ref (B 5)) S hG.1 iX11 (mP_0 hM) 4 rfl (by decide) w0 rfl dX11_at_2 ?_
  refine rd_V (As := []) (rest := [.int (nI (g 1))]) (v := some (.int (nI (g 1)))) S hG (c_Jx4a65c_size_8abf5 l G H (B 5) (eA G B cp 5 8) (mc 5) (nI (g 1)) (mP_5 hM)) gX11_at_Jx4a65c_size_8abf5 rfl ⟨rfl, rfl⟩ nmJx4a65c_size_8abf5 ⟨Nat.le_of_ble_eq_true rfl, Nat.le_of_ble_eq_true rfl⟩ (rd_rcv hG.1 (mP_5 hM) rfl) rfl hl.1 rfl (Nat.le_of_ble_eq_true rfl) ⟨Nat.zero_le _, Nat.zero_le _⟩ dX11_at_5 ?_
  refine W.eq (g2 := F0 mZ 8 ls [.int (nI (g 1)), .int (nI (g 1))]) rfl ?_
  refine lv_icmp_ne (tgt := 16) hx hb dX11_at_8 (by decide) (fun c1 => ?_) (fun c1 => ?_)
  · first | exact absurd c1 hne | exact absurd hne c1 | exact absurd (Int32.not_lt.mp c1) (Int32.not_le.mpr hne) | exact absurd (Int32.not_lt.mpr c1) (by simp only [Int32.not_lt]; exact hne)
  · refine lv_aload hx hb dX11_at_11 (lv_at hl 4 rfl) ?_
    refine lv_goto (tgt := 27) hx hb dX11_at_13 (by decide) ?_
    refine lv_astore (lv' := [(5, .ref o), (0, .ref (B 0)), (1, .int (nI (g 1))), (2, .int d), (3, .int w), (4, .ref o)]) hx hb dX11_at_27 hl (by decide) rfl (fun ls hl => ?_)
    refine lv_aload hx hb dX11_at_29 (lv_at hl 0 rfl) ?_
    refine lv_ifnull hx hb dX11_at_31 ?_
    refine lv_iload_n hx hb dX11_at_34 rfl (lv_at hl 2 rfl) ?_
    refine lv_iload_n hx hb dX11_at_35 rfl (lv_at hl 4 rfl) ?_
    refine lv_icmp_eq (tgt := 48) hx hb dX11_at_36 (by decide) (fun c2 => ?_) (fun c2 => ?_)
    · first | exact absurd c2 hq1 | exact absurd hq1 c2 | exact absurd (Int32.not_lt.mp c2) (Int32.not_le.mpr hq1) | exact absurd (Int32.not_lt.mpr c2) (by simp only [Int32.not_lt]; exact hq1)
    · refine lv_aload hx hb dX11_at_39 (lv_at hl 0 rfl) ?_
      refine lv_iload_n hx hb dX11_at_41 rfl (lv_at hl 3 rfl) ?_
      refine rd_V (As := [.int d]) (rest := []) (v := some (.int (b2i (thX a b d = true)))) S hG (c_X9_isThere l G H (o) x y t a b ho d) gX11_at_X9_isThere rfl ⟨rfl, rfl⟩ nmX9_isThere ⟨Nat.le_of_ble_eq_true rfl, Nat.le_of_ble_eq_true rfl⟩ (rd_rcv hG.1 ho rfl) rfl hl.1 rfl (Nat.le_of_ble_eq_true rfl) ⟨Nat.zero_le _, Nat.zero_le _⟩ dX11_at_42 ?_
      refine W.eq (g2 := F0 mZ 45 ls [.int (b2i (thX a b d = true))]) rfl ?_
      refine lv_if_ne (tgt := 52) hx hb dX11_at_45 (by decide) (fun c3 => ?_) (fun c3 => ?_)
      · have c3 := b2i_nz.mp c3
        refine lv_aload hx hb dX11_at_52 (lv_at hl 0 rfl) ?_
        exact rd_aret S hr hlk (by first | exact Or.inl ⟨_, rfl⟩ | exact Or.inr ⟨_, rfl⟩) (by first | exact Or.inl rfl | exact Or.inr ⟨_, rfl⟩) dX11_at_54 (by first | rfl | (simp only [hne, hq1, hq2, c1, c2, c3, ne_eq, not_true_eq_false, not_false_eq_true, and_true, true_and, and_false, false_and, or_true, true_or, or_false, false_or, and_self, or_self, decide_eq_true_eq, ↓reduceIte]; done) | (simp [hne, hq1, hq2, c1, c2, c3]; done) | (simp only [hne, hq1, hq2, c1, c2, c3, ne_eq, not_true_eq_false, not_false_eq_true, and_true, true_and, and_false, false_and, or_true, true_or, or_false, false_or, and_self, or_self, decide_eq_true_eq, ↓reduceIte]))
      · have c3 := b2i_z.mp c3
        first | exact absurd c3 hq2 | exact absurd hq2 c3 | exact absurd (Int32.not_lt.mp c3) (Int32.not_le.mpr hq2) | exact absurd (Int32.not_lt.mpr c3) (by simp only [Int32.not_lt]; exact hq2)


set_option maxHeartbeats 1000000 in
set_option maxRecDepth 100000 in
theorem c_X11_at_of (l : Launch) (G : GT) (B : Nat → Nat) (th : Int32) (mc : Nat → Int32) (cp : Nat → Nat) (f : Nat → Nat → Int32) (g : Nat → Nat) (H : Heap) (hM : MP G B th mc cp f g H) (o : Nat) (x y t a b : Int32) (ho : va_at G.1 vwCl (o, .inr (10, [.int x, .int y, .int t, .int a, .int b])) H) (d w : Int32) (hq : ¬ (¬ nI (g 1) = w ∧ thX a b d = true)) : RdV l G H yX11_at wsX11_at { frames := 1, cells := 0, slots := 0, locals := 21 } [.ref (B 0), .int (nI (g 1)), .int d, .int w, .ref o] (some (.null)) := by
  refine rd_of (cc := cX11_at) (maxL := 6) (ret := (some (.object "MinimaRoomModel$Obstacle"))) (by decide) rfl (Nat.le_of_ble_eq_true rfl) ?_
  intro pZ eZ sZ mZ bZ meZ cZ ls S hr hlk hl hHs hG
  have S : CallFix pZ mZ cZ cX11_at 6 sZ _ wsX11_at RX11 := S
  have hx := S.1
  have hb := S.2.1
  have hown := S.2.2.2.1
  have hts := S.2.2.2.2
  have hl : lv_has ls 6 [(0, .ref (B 0)), (1, .int (nI (g 1))), (2, .int d), (3, .int w), (4, .ref o)] := hl
  have w0 := hts (.fieldLink RX11 10 "MinimaRoomModel" "obstacles" "Ljava/util/ArrayList;") (by decide +kernel)
  have iX11 : ∀ w ∈ u_ws RX11 TX11 11, w ∈ wsX11_at := by decide +kernel
  have hI := hM.1
  have hgb := hI.1.1
  have hg0 := hI.1.2.1
  have hg1 := hI.1.2.2.1
  have hg3 := hI.1.2.2.2.1
  have hg4 := hI.1.2.2.2.2.1
  have hg5 := hI.1.2.2.2.2.2
  have hne : nI (g 1) = nI (g 1) := rfl
  refine lv_iload_n hx hb dX11_at_0 rfl (lv_at hl 1 rfl) ?_
  refine lv_aload_n hx hb dX11_at_1 rfl (lv_at hl 0 rfl) ?_
  refine rd_get (own := RX11) (x := .ref (B 5)) S hG.1 iX11 (mP_0 hM) 4 rfl (by decide) w0 rfl dX11_at_2 ?_
  refine rd_V (As := []) (rest := [.int (nI (g 1))]) (v := some (.int (nI (g 1)))) S hG (c_Jx4a65c_size_8abf5 l G H (B 5) (eA G B cp 5 8) (mc 5) (nI (g 1)) (mP_5 hM)) gX11_at_Jx4a65c_size_8abf5 rfl ⟨rfl, rfl⟩ nmJx4a65c_size_8abf5 ⟨Nat.le_of_ble_eq_true rfl, Nat.le_of_ble_eq_true rfl⟩ (rd_rcv hG.1 (mP_5 hM) rfl) rfl hl.1 rfl (Nat.le_of_ble_eq_true rfl) ⟨Nat.zero_le _, Nat.zero_le _⟩ dX11_at_5 ?_
  refine W.eq (g2 := F0 mZ 8 ls [.int (nI (g 1)), .int (nI (g 1))]) rfl ?_
  refine lv_icmp_ne (tgt := 16) hx hb dX11_at_8 (by decide) (fun c1 => ?_) (fun c1 => ?_)
  · first | exact absurd c1 hne | exact absurd hne c1 | exact absurd (Int32.not_lt.mp c1) (Int32.not_le.mpr hne) | exact absurd (Int32.not_lt.mpr c1) (by simp only [Int32.not_lt]; exact hne)
  · refine lv_aload hx hb dX11_at_11 (lv_at hl 4 rfl) ?_
    refine lv_goto (tgt := 27) hx hb dX11_at_13 (by decide) ?_
    refine lv_astore (lv' := [(5, .ref o), (0, .ref (B 0)), (1, .int (nI (g 1))), (2, .int d), (3, .int w), (4, .ref o)]) hx hb dX11_at_27 hl (by decide) rfl (fun ls hl => ?_)
    refine lv_aload hx hb dX11_at_29 (lv_at hl 0 rfl) ?_
    refine lv_ifnull hx hb dX11_at_31 ?_
    refine lv_iload_n hx hb dX11_at_34 rfl (lv_at hl 2 rfl) ?_
    refine lv_iload_n hx hb dX11_at_35 rfl (lv_at hl 4 rfl) ?_
    refine lv_icmp_eq (tgt := 48) hx hb dX11_at_36 (by decide) (fun c2 => ?_) (fun c2 => ?_)
    · refine lv_null hx hb dX11_at_48 ?_
      refine lv_goto (tgt := 54) hx hb dX11_at_49 (by decide) ?_
      exact rd_aret S hr hlk (by first | exact Or.inl ⟨_, rfl⟩ | exact Or.inr ⟨_, rfl⟩) (by first | exact Or.inl rfl | exact Or.inr ⟨_, rfl⟩) dX11_at_54 (by rfl)
    · refine lv_aload hx hb dX11_at_39 (lv_at hl 0 rfl) ?_
      refine lv_iload_n hx hb dX11_at_41 rfl (lv_at hl 3 rfl) ?_
      refine rd_V (As := [.int d]) (rest := []) (v := some (.int (b2i (thX a b d = true)))) S hG (c_X9_isThere l G H (o) x y t a b ho d) gX11_at_X9_isThere rfl ⟨rfl, rfl⟩ nmX9_isThere ⟨Nat.le_of_ble_eq_true rfl, Nat.le_of_ble_eq_true rfl⟩ (rd_rcv hG.1 ho rfl) rfl hl.1 rfl (Nat.le_of_ble_eq_true rfl) ⟨Nat.zero_le _, Nat.zero_le _⟩ dX11_at_42 ?_
      refine W.eq (g2 := F0 mZ 45 ls [.int (b2i (thX a b d = true))]) rfl ?_
      refine lv_if_ne (tgt := 52) hx hb dX11_at_45 (by decide) (fun c3 => ?_) (fun c3 => ?_)
      · have c3 := b2i_nz.mp c3
        refine lv_aload hx hb dX11_at_52 (lv_at hl 0 rfl) ?_
        exact rd_aret S hr hlk (by first | exact Or.inl ⟨_, rfl⟩ | exact Or.inr ⟨_, rfl⟩) (by first | exact Or.inl rfl | exact Or.inr ⟨_, rfl⟩) dX11_at_54 (by exact absurd ⟨c2, c3⟩ hq)
      · have c3 := b2i_z.mp c3
        refine lv_null hx hb dX11_at_48 ?_
        refine lv_goto (tgt := 54) hx hb dX11_at_49 (by decide) ?_
        exact rd_aret S hr hlk (by first | exact Or.inl ⟨_, rfl⟩ | exact Or.inr ⟨_, rfl⟩) (by first | exact Or.inl rfl | exact Or.inr ⟨_, rfl⟩) dX11_at_54 (by rfl)

theorem nmX10_chart : nmV yX10_chart RX10 1 := by decide +kernel

set_option maxHeartbeats 1000000 in
set_option maxRecDepth 100000 in
theorem c_X10_chart (l : Launch) (G : GT) (B : Nat → Nat) (th : Int32) (mc : Nat → Int32) (cp : Nat → Nat) (f : Nat → Nat → Int32) (g : Nat → Nat) (H : Heap) (hM : MP G B th mc cp f g H) (i : Nat) (d : Int32) (hi : i < g 3) : RdV l G H yX10_chart wsX10_chart { frames := 3, cells := 0, slots := 0, locals := 64 } [.ref (B (40 + i)), .int d] (some (.int (mCh f g i d))) := by
  refine rd_of (cc := cX10_chart) (maxL := 4) (ret := (some .int)) (by decide) rfl (Nat.le_of_ble_eq_true rfl) ?_
  intro pZ eZ sZ mZ bZ meZ cZ ls S hr hlk hl hHs hG
  have S : CallFix pZ mZ cZ cX10_chart 4 sZ _ wsX10_chart RX10 := S
  have hx := S.1
  have hb := S.2.1
  have hown := S.2.2.2.1
  have hts := S.2.2.2.2
  have hl : lv_has ls 4 [(0, .ref (B (40 + i))), (1, .int d)] := hl
  have w0 := hts (.fieldLink RX10 12 "MinimaRoomModel$Procedure" "amendments" "Ljava/util/ArrayList;") (by decide +kernel)
  have w1 := hts (.classLink RX10 33 "[I") (by decide +kernel)
  have iX10 : ∀ w ∈ u_ws RX10 TX10 3, w ∈ wsX10_chart := by decide +kernel
  have hI := hM.1
  have hgb := hI.1.1
  have hg0 := hI.1.2.1
  have hg1 := hI.1.2.2.1
  have hg3 := hI.1.2.2.2.1
  have hg4 := hI.1.2.2.2.2.1
  have hg5 := hI.1.2.2.2.2.2
  have hlen : (amL f i (g 4)).length ≤ 20 := Nat.le_trans (Nat.le_trans (List.length_filter_le _ _) (Nat.le_of_eq List.length_range)) hg4
  refine lv_iconst (v := (-1)) hx hb dX10_chart_0 (by decide) ?_
  refine lv_istore_n (lv' := [(2, .int (-1)), (0, .ref (B (40 + i))), (1, .int d)]) hx hb dX10_chart_1 rfl hl (by decide) rfl (fun ls hl => ?_)
  refine lv_iconst (v := 0) hx hb dX10_chart_2 (by decide) ?_
  refine lv_istore_n (lv' := [(3, .int 0), (2, .int (-1)), (0, .ref (B (40 + i))), (1, .int d)]) hx hb dX10_chart_3 rfl hl (by decide) rfl (fun ls hl => ?_)
  have loop4 : ∀ (n4 k4 : Nat), k4 + n4 = (amL f i (g 4)).length → ∀ (z4_2 : Int32), z4_2 = fl k4 (fun j h => if ¬ d < f 20 ((amL f i (g 4)).getD j 0) then f 21 ((amL f i (g 4)).getD j 0) else h) (-1) → ∀ (ls : Array Slot), lv_has ls 4 [(3, .int (nI k4)), (2, .int z4_2), (0, .ref (B (40 + i))), (1, .int d)] → W pZ l eZ ({ frames := 3, cells := 0, slots := 0, locals := 64 } : Room) sZ mZ ([.ref (B (40 + i)), .int d] : List Value).toArray bZ meZ cZ H [] 0 0 (rd_Q bZ H [.ref (B (40 + i)), .int d] sZ (some (.int (mCh f g i d)))) (F0 mZ 4 ls []) := by
    intro n4
    induction n4 with
    | zero =>
      intro k4 hk4 z4_2 ez4_2 ls hl
      obtain rfl : k4 = (amL f i (g 4)).length := by omega
      refine lv_iload_n hx hb dX10_chart_4 rfl (lv_at hl 0 rfl) ?_
      refine lv_aload_n hx hb dX10_chart_5 rfl (lv_at hl 2 rfl) ?_
      refine rd_get (own := RX10) (x := .ref (B (50 + i))) S hG.1 iX10 (mP_pr hM (i := i) (by omega)) 2 rfl (by decide) w0 rfl dX10_chart_6 ?_
      refine rd_V (As := []) (rest := [.int (nI ((amL f i (g 4)).length))]) (v := some (.int (nI (amL f i (g 4)).length))) S hG (c_Jx4a65c_size_8abf5 l G H (B (50 + i)) (eA G B cp (50 + i) (60 + i)) (mc (50 + i)) (nI (amL f i (g 4)).length) (mP_pl hM (i := i) (by omega))) gX10_chart_Jx4a65c_size_8abf5 rfl ⟨rfl, rfl⟩ nmJx4a65c_size_8abf5 ⟨Nat.le_of_ble_eq_true rfl, Nat.le_of_ble_eq_true rfl⟩ (rd_rcv hG.1 (mP_pl hM (i := i) (by omega)) rfl) rfl hl.1 rfl (Nat.le_of_ble_eq_true rfl) ⟨Nat.zero_le _, Nat.zero_le _⟩ dX10_chart_9 ?_
      refine W.eq (g2 := F0 mZ 12 ls [.int (nI (amL f i (g 4)).length), .int (nI ((amL f i (g 4)).length))]) rfl ?_
      refine lv_icmp_ge (tgt := 52) hx hb dX10_chart_12 (by decide) (fun c1 => ?_) (fun c1 => ?_)
      · have d1 := Int32.not_lt.mpr c1
        refine lv_iload_n hx hb dX10_chart_52 rfl (lv_at hl 1 rfl) ?_
        exact rd_iret S hr hlk dX10_chart_53 (congrArg (fun z => some (Value.int z)) (by subst ez4_2; first | rfl | (simp only [mCh, c1, d1, ne_eq, not_true_eq_false, not_false_eq_true, and_true, true_and, and_false, false_and, or_true, true_or, or_false, false_or, and_self, or_self, decide_eq_true_eq, ↓reduceIte]; done) | (simp [mCh, c1, d1]; done) | (simp only [mCh, c1, d1, ne_eq, not_true_eq_false, not_false_eq_true, and_true, true_and, and_false, false_and, or_true, true_or, or_false, false_or, and_self, or_self, decide_eq_true_eq, ↓reduceIte])))
      · exact absurd (nI_le (by omega) (by omega)) c1
    | succ n4 ih4 =>
      intro k4 hk4 z4_2 ez4_2 ls hl
      have hkL : k4 < (amL f i (g 4)).length := by omega
      have hgd : (amL f i (g 4)).getD k4 0 = (amL f i (g 4))[k4] := by rw [List.getD_eq_getElem?_getD, List.getElem?_eq_getElem hkL]; rfl
      refine lv_iload_n hx hb dX10_chart_4 rfl (lv_at hl 0 rfl) ?_
      refine lv_aload_n hx hb dX10_chart_5 rfl (lv_at hl 2 rfl) ?_
      refine rd_get (own := RX10) (x := .ref (B (50 + i))) S hG.1 iX10 (mP_pr hM (i := i) (by omega)) 2 rfl (by decide) w0 rfl dX10_chart_6 ?_
      refine rd_V (As := []) (rest := [.int (nI k4)]) (v := some (.int (nI (amL f i (g 4)).length))) S hG (c_Jx4a65c_size_8abf5 l G H (B (50 + i)) (eA G B cp (50 + i) (60 + i)) (mc (50 + i)) (nI (amL f i (g 4)).length) (mP_pl hM (i := i) (by omega))) gX10_chart_Jx4a65c_size_8abf5 rfl ⟨rfl, rfl⟩ nmJx4a65c_size_8abf5 ⟨Nat.le_of_ble_eq_true rfl, Nat.le_of_ble_eq_true rfl⟩ (rd_rcv hG.1 (mP_pl hM (i := i) (by omega)) rfl) rfl hl.1 rfl (Nat.le_of_ble_eq_true rfl) ⟨Nat.zero_le _, Nat.zero_le _⟩ dX10_chart_9 ?_
      refine W.eq (g2 := F0 mZ 12 ls [.int (nI (amL f i (g 4)).length), .int (nI k4)]) rfl ?_
      refine lv_icmp_ge (tgt := 52) hx hb dX10_chart_12 (by decide) (fun c2 => ?_) (fun c2 => ?_)
      · exact absurd c2 (nI_ge (by omega) (by omega))
      · have d2 := Int32.not_le.mp c2
        refine lv_aload_n hx hb dX10_chart_15 rfl (lv_at hl 2 rfl) ?_
        refine rd_get (own := RX10) (x := .ref (B (50 + i))) S hG.1 iX10 (mP_pr hM (i := i) (by omega)) 2 rfl (by decide) w0 rfl dX10_chart_16 ?_
        refine lv_iload_n hx hb dX10_chart_19 rfl (lv_at hl 0 rfl) ?_
        refine rd_V (As := [.int (nI k4)]) (rest := []) (v := some (.ref (B (100 + (amL f i (g 4))[k4])))) S hG (c_Jx4a65c_get_915e3 l G H (B (50 + i)) (eA G B cp (50 + i) (60 + i)) (mc (50 + i)) (amL f i (g 4)).length (cp (50 + i)) (amE B (amL f i (g 4))) (mP_pl hM (i := i) (by omega)) (mP_pe hM (i := i) (by omega) (by omega)) (hM.1.2.1.2.2.2.1 _ (by omega)) (hM.1.2.1.2.2.2.2 _) k4 (B (100 + (amL f i (g 4))[k4])) (by omega) (amE_at (by omega))) gX10_chart_Jx4a65c_get_915e3 rfl ⟨rfl, rfl⟩ nmJx4a65c_get_915e3 ⟨Nat.le_of_ble_eq_true rfl, Nat.le_of_ble_eq_true rfl⟩ (rd_rcv hG.1 (mP_pl hM (i := i) (by omega)) rfl) rfl hl.1 rfl (Nat.le_of_ble_eq_true rfl) ⟨Nat.zero_le _, Nat.zero_le _⟩ dX10_chart_20 ?_
        refine W.eq (g2 := F0 mZ 23 ls [.ref (B (100 + (amL f i (g 4))[k4]))]) rfl ?_
        refine rd_castI S hG.1 (mP_am hM (j := (amL f i (g 4))[k4]) (amL_lt (by omega))) w1 dX10_chart_23 ?_
        refine lv_iconst (v := 0) hx hb dX10_chart_26 (by decide) ?_
        refine rd_iald S hG.1 (mP_am hM (j := (amL f i (g 4))[k4]) (amL_lt (by omega))) (vp_in_nI (n := 0) (by decide) (by decide)) dX10_chart_27 ?_
        refine W.eq (g2 := F0 mZ 28 ls [.int (f 20 ((amL f i (g 4))[k4]))]) (by rw [show (0 : Int32).toNatClampNeg = 0 from rfl, if_pos rfl]) ?_
        refine lv_iload_n hx hb dX10_chart_28 rfl (lv_at hl 3 rfl) ?_
        refine lv_icmp_gt (tgt := 46) hx hb dX10_chart_29 (by decide) (fun c3 => ?_) (fun c3 => ?_)
        · have d3 := Int32.not_le.mpr c3
          refine lv_iinc (v := nI (k4 + 1)) (lv' := [(3, .int (nI (k4 + 1))), (2, .int z4_2), (0, .ref (B (40 + i))), (1, .int d)]) hx hb dX10_chart_46 hl (k := 0) rfl (nI_inc _) (by decide) rfl (fun ls hl => ?_)
          refine lv_goto (tgt := 4) hx hb dX10_chart_49 (by decide) ?_
          exact ih4 (k4 + 1) (by omega) _ (by subst ez4_2; show _ = (if ¬ d < f 20 ((amL f i (g 4)).getD k4 0) then f 21 ((amL f i (g 4)).getD k4 0) else _); rw [hgd]; first | rw [if_pos c3] | rw [if_neg (Classical.not_not.mpr c3)]) ls (lv_sub hl [0, 1, 2, 3] rfl)
        · have d3 := Int32.not_lt.mp c3
          refine lv_aload_n hx hb dX10_chart_32 rfl (lv_at hl 2 rfl) ?_
          refine rd_get (own := RX10) (x := .ref (B (50 + i))) S hG.1 iX10 (mP_pr hM (i := i) (by omega)) 2 rfl (by decide) w0 rfl dX10_chart_33 ?_
          refine lv_iload_n hx hb dX10_chart_36 rfl (lv_at hl 0 rfl) ?_
          refine rd_V (As := [.int (nI k4)]) (rest := []) (v := some (.ref (B (100 + (amL f i (g 4))[k4])))) S hG (c_Jx4a65c_get_915e3 l G H (B (50 + i)) (eA G B cp (50 + i) (60 + i)) (mc (50 + i)) (amL f i (g 4)).length (cp (50 + i)) (amE B (amL f i (g 4))) (mP_pl hM (i := i) (by omega)) (mP_pe hM (i := i) (by omega) (by omega)) (hM.1.2.1.2.2.2.1 _ (by omega)) (hM.1.2.1.2.2.2.2 _) k4 (B (100 + (amL f i (g 4))[k4])) (by omega) (amE_at (by omega))) gX10_chart_Jx4a65c_get_915e3 rfl ⟨rfl, rfl⟩ nmJx4a65c_get_915e3 ⟨Nat.le_of_ble_eq_true rfl, Nat.le_of_ble_eq_true rfl⟩ (rd_rcv hG.1 (mP_pl hM (i := i) (by omega)) rfl) rfl hl.1 rfl (Nat.le_of_ble_eq_true rfl) ⟨Nat.zero_le _, Nat.zero_le _⟩ dX10_chart_37 ?_
          refine W.eq (g2 := F0 mZ 40 ls [.ref (B (100 + (amL f i (g 4))[k4]))]) rfl ?_
          refine rd_castI S hG.1 (mP_am hM (j := (amL f i (g 4))[k4]) (amL_lt (by omega))) w1 dX10_chart_40 ?_
          refine lv_iconst (v := 1) hx hb dX10_chart_43 (by decide) ?_
          refine rd_iald S hG.1 (mP_am hM (j := (amL f i (g 4))[k4]) (amL_lt (by omega))) (vp_in_nI (n := 1) (by decide) (by decide)) dX10_chart_44 ?_
          refine W.eq (g2 := F0 mZ 45 ls [.int (f 21 ((amL f i (g 4))[k4]))]) (by rw [show (1 : Int32).toNatClampNeg = 1 from rfl, if_neg (by decide)]) ?_
          refine lv_topi (fun x4 ex4 => ?_)
          refine lv_istore_n (lv' := [(2, .int x4), (3, .int (nI k4)), (0, .ref (B (40 + i))), (1, .int d)]) hx hb dX10_chart_45 rfl hl (by decide) rfl (fun ls hl => ?_)
          refine lv_iinc (v := nI (k4 + 1)) (lv' := [(3, .int (nI (k4 + 1))), (2, .int x4), (0, .ref (B (40 + i))), (1, .int d)]) hx hb dX10_chart_46 hl (k := 1) rfl (nI_inc _) (by decide) rfl (fun ls hl => ?_)
          refine lv_goto (tgt := 4) hx hb dX10_chart_49 (by decide) ?_
          exact ih4 (k4 + 1) (by omega) _ (by subst ex4; subst ez4_2; show _ = (if ¬ d < f 20 ((amL f i (g 4)).getD k4 0) then f 21 ((amL f i (g 4)).getD k4 0) else _); rw [hgd]; first | rw [if_pos c3] | rw [if_neg (Classical.not_not.mpr c3)]) ls (lv_sub hl [0, 1, 2, 3] rfl)
  exact loop4 ((amL f i (g 4)).length) 0 (by omega) _ (by first | rfl | first | rfl | (simp only [fl, mCh, ne_eq, not_true_eq_false, not_false_eq_true, and_true, true_and, and_false, false_and, or_true, true_or, or_false, false_or, and_self, or_self, decide_eq_true_eq, ↓reduceIte]; done) | (simp only [fl, mCh, ne_eq, not_true_eq_false, not_false_eq_true, and_true, true_and, and_false, false_and, or_true, true_or, or_false, false_or, and_self, or_self, decide_eq_true_eq, ↓reduceIte]; rfl) | (simp [fl, mCh]; done) | (simp only [fl, mCh, ne_eq, not_true_eq_false, not_false_eq_true, and_true, true_and, and_false, false_and, or_true, true_or, or_false, false_or, and_self, or_self, decide_eq_true_eq, ↓reduceIte])) ls (lv_sub hl [0, 1, 2, 3] rfl)

theorem nmX11_counts : nmV yX11_counts RX11 3 := by decide +kernel

set_option maxHeartbeats 1000000 in
set_option maxRecDepth 100000 in
theorem c_X11_counts (l : Launch) (G : GT) (B : Nat → Nat) (th : Int32) (mc : Nat → Int32) (cp : Nat → Nat) (f : Nat → Nat → Int32) (g : Nat → Nat) (H : Heap) (hM : MP G B th mc cp f g H) (i : Nat) (d : Int32) (bb : Nat) (hi : i < g 5) (hbb : bb ≤ g 5) : RdV l G H yX11_counts wsX11_counts { frames := 3, cells := 0, slots := 0, locals := 64 } [.ref (B 0), .int (nI i), .int d, .int (nI bb)] (some (.int (b2i (mCt f i d bb = true)))) := by
  refine rd_of (cc := cX11_counts) (maxL := 6) (ret := (some .boolean)) (by decide) rfl (Nat.le_of_ble_eq_true rfl) ?_
  intro pZ eZ sZ mZ bZ meZ cZ ls S hr hlk hl hHs hG
  have S : CallFix pZ mZ cZ cX11_counts 6 sZ _ wsX11_counts RX11 := S
  have hx := S.1
  have hb := S.2.1
  have hown := S.2.2.2.1
  have hts := S.2.2.2.2
  have hl : lv_has ls 6 [(0, .ref (B 0)), (1, .int (nI i)), (2, .int d), (3, .int (nI bb))] := hl
  have w0 := hts (.fieldLink RX11 26 "MinimaRoomModel" "notices" "Ljava/util/ArrayList;") (by decide +kernel)
  have w1 := hts (.classLink RX11 102 "MinimaRoomModel$Notice") (by decide +kernel)
  have w2 := hts (.fieldLink RX11 104 "MinimaRoomModel$Notice" "kind" "I") (by decide +kernel)
  have w3 := hts (.fieldLink RX11 107 "MinimaRoomModel$Notice" "from" "I") (by decide +kernel)
  have w4 := hts (.fieldLink RX11 110 "MinimaRoomModel$Notice" "to" "I") (by decide +kernel)
  have w5 := hts (.fieldLink RX11 113 "MinimaRoomModel$Notice" "of" "I") (by decide +kernel)
  have iX11 : ∀ w ∈ u_ws RX11 TX11 11, w ∈ wsX11_counts := by decide +kernel
  have iX8 : ∀ w ∈ u_ws RX8 TX8 5, w ∈ wsX11_counts := by decide +kernel
  have hI := hM.1
  have hgb := hI.1.1
  have hg0 := hI.1.2.1
  have hg1 := hI.1.2.2.1
  have hg3 := hI.1.2.2.2.1
  have hg4 := hI.1.2.2.2.2.1
  have hg5 := hI.1.2.2.2.2.2
  refine lv_aload_n hx hb dX11_counts_0 rfl (lv_at hl 0 rfl) ?_
  refine rd_get (own := RX11) (x := .ref (B 7)) S hG.1 iX11 (mP_0 hM) 8 rfl (by decide) w0 rfl dX11_counts_1 ?_
  refine lv_iload_n hx hb dX11_counts_4 rfl (lv_at hl 1 rfl) ?_
  refine rd_V (As := [.int (nI i)]) (rest := []) (v := some (.ref (B (200 + i)))) S hG (c_Jx4a65c_get_915e3 l G H (B 7) (eA G B cp 7 10) (mc 7) (g 5) (cp 7) (lsE B 200 (g 5)) (mP_7 hM) (mP_e7 hM (by omega)) hM.1.2.1.2.2.1 (hM.1.2.1.2.2.2.2 _) i (B (200 + i)) (by omega) (lsE_at (by omega))) gX11_counts_Jx4a65c_get_915e3 rfl ⟨rfl, rfl⟩ nmJx4a65c_get_915e3 ⟨Nat.le_of_ble_eq_true rfl, Nat.le_of_ble_eq_true rfl⟩ (rd_rcv hG.1 (mP_7 hM) rfl) rfl hl.1 rfl (Nat.le_of_ble_eq_true rfl) ⟨Nat.zero_le _, Nat.zero_le _⟩ dX11_counts_5 ?_
  refine W.eq (g2 := F0 mZ 8 ls [.ref (B (200 + i))]) rfl ?_
  refine rd_castS S hG.1 (mP_no hM (i := i) (by omega)) rfl rfl w1 dX11_counts_8 ?_
  refine lv_astore (lv' := [(4, .ref (B (200 + i))), (0, .ref (B 0)), (1, .int (nI i)), (2, .int d), (3, .int (nI bb))]) hx hb dX11_counts_11 hl (by decide) rfl (fun ls hl => ?_)
  refine lv_aload hx hb dX11_counts_13 (lv_at hl 0 rfl) ?_
  refine rd_get (own := RX11) (x := .int (f 22 i)) S hG.1 iX8 (mP_no hM (i := i) (by omega)) 0 rfl (by decide) w2 rfl dX11_counts_15 ?_
  refine lv_iconst (v := 3) hx hb dX11_counts_18 (by decide) ?_
  refine lv_icmp_eq (tgt := 40) hx hb dX11_counts_19 (by decide) (fun c1 => ?_) (fun c1 => ?_)
  · refine lv_iconst (v := 0) hx hb dX11_counts_40 (by decide) ?_
    exact rd_zret S hr hlk dX11_counts_41 (by first | rfl | exact nz_b2i _) (congrArg (fun z => some (Value.int z)) (by first | rfl | (simp only [mCt, mCo, b2i, c1, ne_eq, not_true_eq_false, not_false_eq_true, and_true, true_and, and_false, false_and, or_true, true_or, or_false, false_or, and_self, or_self, decide_eq_true_eq, ↓reduceIte]; done) | (simp [mCt, mCo, b2i, c1]; done) | (simp only [mCt, mCo, b2i, c1, ne_eq, not_true_eq_false, not_false_eq_true, and_true, true_and, and_false, false_and, or_true, true_or, or_false, false_or, and_self, or_self, decide_eq_true_eq, ↓reduceIte])))
  · refine lv_iload_n hx hb dX11_counts_22 rfl (lv_at hl 3 rfl) ?_
    refine lv_aload hx hb dX11_counts_23 (lv_at hl 0 rfl) ?_
    refine rd_get (own := RX11) (x := .int (f 25 i)) S hG.1 iX8 (mP_no hM (i := i) (by omega)) 3 rfl (by decide) w3 rfl dX11_counts_25 ?_
    refine lv_icmp_lt (tgt := 40) hx hb dX11_counts_28 (by decide) (fun c2 => ?_) (fun c2 => ?_)
    · have d2 := Int32.not_le.mpr c2
      refine lv_iconst (v := 0) hx hb dX11_counts_40 (by decide) ?_
      exact rd_zret S hr hlk dX11_counts_41 (by first | rfl | exact nz_b2i _) (congrArg (fun z => some (Value.int z)) (by first | rfl | (simp only [mCt, mCo, b2i, c1, c2, d2, ne_eq, not_true_eq_false, not_false_eq_true, and_true, true_and, and_false, false_and, or_true, true_or, or_false, false_or, and_self, or_self, decide_eq_true_eq, ↓reduceIte]; done) | (simp [mCt, mCo, b2i, c1, c2, d2]; done) | (simp only [mCt, mCo, b2i, c1, c2, d2, ne_eq, not_true_eq_false, not_false_eq_true, and_true, true_and, and_false, false_and, or_true, true_or, or_false, false_or, and_self, or_self, decide_eq_true_eq, ↓reduceIte])))
    · have d2 := Int32.not_lt.mp c2
      refine lv_iload_n hx hb dX11_counts_31 rfl (lv_at hl 3 rfl) ?_
      refine lv_aload hx hb dX11_counts_32 (lv_at hl 0 rfl) ?_
      refine rd_get (own := RX11) (x := .int (f 26 i)) S hG.1 iX8 (mP_no hM (i := i) (by omega)) 4 rfl (by decide) w4 rfl dX11_counts_34 ?_
      refine lv_icmp_le (tgt := 42) hx hb dX11_counts_37 (by decide) (fun c3 => ?_) (fun c3 => ?_)
      · have d3 := Int32.not_lt.mpr c3
        refine lv_iload_n hx hb dX11_counts_42 rfl (lv_at hl 2 rfl) ?_
        refine lv_iconst (v := 1) hx hb dX11_counts_43 (by decide) ?_
        refine lv_iadd hx hb dX11_counts_44 ?_
        refine W.eq (g2 := F0 mZ 45 ls [.int (nI (i + 1))]) (by rw [nI_1]) ?_
        refine lv_istore (lv' := [(5, .int (nI (i + 1))), (4, .ref (B (200 + i))), (0, .ref (B 0)), (1, .int (nI i)), (2, .int d), (3, .int (nI bb))]) hx hb dX11_counts_45 hl (by decide) rfl (fun ls hl => ?_)
        have loop47 : ∀ (n47 k47 : Nat), k47 + n47 = bb - (i + 1) → mCt f i d bb = mCo f i d n47 (i + 1 + k47) → ∀ (ls : Array Slot), lv_has ls 6 [(5, .int (nI (i + 1 + k47))), (0, .ref (B 0)), (1, .int (nI i)), (2, .int d), (3, .int (nI bb)), (4, .ref (B (200 + i)))] → W pZ l eZ ({ frames := 3, cells := 0, slots := 0, locals := 64 } : Room) sZ mZ ([.ref (B 0), .int (nI i), .int d, .int (nI bb)] : List Value).toArray bZ meZ cZ H [] 0 0 (rd_Q bZ H [.ref (B 0), .int (nI i), .int d, .int (nI bb)] sZ (some (.int (b2i (mCt f i d bb = true))))) (F0 mZ 47 ls []) := by
          intro n47
          induction n47 with
          | zero =>
            intro k47 hk47  inv47 ls hl
            obtain rfl : k47 = bb - (i + 1) := by omega
            refine lv_iload hx hb dX11_counts_47 (lv_at hl 0 rfl) ?_
            refine lv_iload_n hx hb dX11_counts_49 rfl (lv_at hl 4 rfl) ?_
            refine lv_icmp_ge (tgt := 118) hx hb dX11_counts_50 (by decide) (fun c4 => ?_) (fun c4 => ?_)
            · have d4 := Int32.not_lt.mpr c4
              refine lv_iconst (v := 1) hx hb dX11_counts_118 (by decide) ?_
              exact rd_zret S hr hlk dX11_counts_119 (by first | rfl | exact nz_b2i _) (congrArg (fun z => some (Value.int z)) (by rw [inv47]; first | rfl | (simp only [mCt, mCo, b2i, c1, c2, d2, c3, d3, c4, d4, ne_eq, not_true_eq_false, not_false_eq_true, and_true, true_and, and_false, false_and, or_true, true_or, or_false, false_or, and_self, or_self, decide_eq_true_eq, ↓reduceIte]; done) | (simp [mCt, mCo, b2i, c1, c2, d2, c3, d3, c4, d4]; done) | (simp only [mCt, mCo, b2i, c1, c2, d2, c3, d3, c4, d4, ne_eq, not_true_eq_false, not_false_eq_true, and_true, true_and, and_false, false_and, or_true, true_or, or_false, false_or, and_self, or_self, decide_eq_true_eq, ↓reduceIte])))
            · exact absurd (nI_le (by omega) (by omega)) c4
          | succ n47 ih47 =>
            intro k47 hk47  inv47 ls hl
            refine lv_iload hx hb dX11_counts_47 (lv_at hl 0 rfl) ?_
            refine lv_iload_n hx hb dX11_counts_49 rfl (lv_at hl 4 rfl) ?_
            refine lv_icmp_ge (tgt := 118) hx hb dX11_counts_50 (by decide) (fun c5 => ?_) (fun c5 => ?_)
            · exact absurd c5 (nI_ge (by omega) (by omega))
            · have d5 := Int32.not_le.mp c5
              refine lv_aload_n hx hb dX11_counts_53 rfl (lv_at hl 1 rfl) ?_
              refine rd_get (own := RX11) (x := .ref (B 7)) S hG.1 iX11 (mP_0 hM) 8 rfl (by decide) w0 rfl dX11_counts_54 ?_
              refine lv_iload hx hb dX11_counts_57 (lv_at hl 0 rfl) ?_
              refine rd_V (As := [.int (nI (i + 1 + k47))]) (rest := []) (v := some (.ref (B (200 + (i + 1 + k47))))) S hG (c_Jx4a65c_get_915e3 l G H (B 7) (eA G B cp 7 10) (mc 7) (g 5) (cp 7) (lsE B 200 (g 5)) (mP_7 hM) (mP_e7 hM (by omega)) hM.1.2.1.2.2.1 (hM.1.2.1.2.2.2.2 _) (i + 1 + k47) (B (200 + (i + 1 + k47))) (by omega) (lsE_at (by omega))) gX11_counts_Jx4a65c_get_915e3 rfl ⟨rfl, rfl⟩ nmJx4a65c_get_915e3 ⟨Nat.le_of_ble_eq_true rfl, Nat.le_of_ble_eq_true rfl⟩ (rd_rcv hG.1 (mP_7 hM) rfl) rfl hl.1 rfl (Nat.le_of_ble_eq_true rfl) ⟨Nat.zero_le _, Nat.zero_le _⟩ dX11_counts_59 ?_
              refine W.eq (g2 := F0 mZ 62 ls [.ref (B (200 + (i + 1 + k47)))]) rfl ?_
              refine rd_castS S hG.1 (mP_no hM (i := (i + 1 + k47)) (by omega)) rfl rfl w1 dX11_counts_62 ?_
              refine rd_get (own := RX11) (x := .int (f 22 (i + 1 + k47))) S hG.1 iX8 (mP_no hM (i := (i + 1 + k47)) (by omega)) 0 rfl (by decide) w2 rfl dX11_counts_65 ?_
              refine lv_iconst (v := 3) hx hb dX11_counts_68 (by decide) ?_
              refine lv_icmp_ne (tgt := 112) hx hb dX11_counts_69 (by decide) (fun c6 => ?_) (fun c6 => ?_)
              · refine lv_iinc (v := nI ((i + 1 + k47) + 1)) (lv' := [(5, .int (nI ((i + 1 + k47) + 1))), (0, .ref (B 0)), (1, .int (nI i)), (2, .int d), (3, .int (nI bb)), (4, .ref (B (200 + i)))]) hx hb dX11_counts_112 hl (k := 0) rfl (nI_inc _) (by decide) rfl (fun ls hl => ?_)
                refine lv_goto (tgt := 47) hx hb dX11_counts_115 (by decide) ?_
                exact ih47 (k47 + 1) (by omega) (inv47.trans (by first | rfl | (simp only [fl, mCt, mCo, b2i, c1, c2, d2, c3, d3, c5, d5, c6, ne_eq, not_true_eq_false, not_false_eq_true, and_true, true_and, and_false, false_and, or_true, true_or, or_false, false_or, and_self, or_self, decide_eq_true_eq, ↓reduceIte]; done) | (simp only [fl, mCt, mCo, b2i, c1, c2, d2, c3, d3, c5, d5, c6, ne_eq, not_true_eq_false, not_false_eq_true, and_true, true_and, and_false, false_and, or_true, true_or, or_false, false_or, and_self, or_self, decide_eq_true_eq, ↓reduceIte]; rfl) | (simp [fl, mCt, mCo, b2i, c1, c2, d2, c3, d3, c5, d5, c6]; done) | (simp only [fl, mCt, mCo, b2i, c1, c2, d2, c3, d3, c5, d5, c6, ne_eq, not_true_eq_false, not_false_eq_true, and_true, true_and, and_false, false_and, or_true, true_or, or_false, false_or, and_self, or_self, decide_eq_true_eq, ↓reduceIte]))) ls (lv_sub hl [0, 1, 2, 3, 4, 5] rfl)
              · refine lv_aload_n hx hb dX11_counts_72 rfl (lv_at hl 1 rfl) ?_
                refine rd_get (own := RX11) (x := .ref (B 7)) S hG.1 iX11 (mP_0 hM) 8 rfl (by decide) w0 rfl dX11_counts_73 ?_
                refine lv_iload hx hb dX11_counts_76 (lv_at hl 0 rfl) ?_
                refine rd_V (As := [.int (nI (i + 1 + k47))]) (rest := []) (v := some (.ref (B (200 + (i + 1 + k47))))) S hG (c_Jx4a65c_get_915e3 l G H (B 7) (eA G B cp 7 10) (mc 7) (g 5) (cp 7) (lsE B 200 (g 5)) (mP_7 hM) (mP_e7 hM (by omega)) hM.1.2.1.2.2.1 (hM.1.2.1.2.2.2.2 _) (i + 1 + k47) (B (200 + (i + 1 + k47))) (by omega) (lsE_at (by omega))) gX11_counts_Jx4a65c_get_915e3 rfl ⟨rfl, rfl⟩ nmJx4a65c_get_915e3 ⟨Nat.le_of_ble_eq_true rfl, Nat.le_of_ble_eq_true rfl⟩ (rd_rcv hG.1 (mP_7 hM) rfl) rfl hl.1 rfl (Nat.le_of_ble_eq_true rfl) ⟨Nat.zero_le _, Nat.zero_le _⟩ dX11_counts_78 ?_
                refine W.eq (g2 := F0 mZ 81 ls [.ref (B (200 + (i + 1 + k47)))]) rfl ?_
                refine rd_castS S hG.1 (mP_no hM (i := (i + 1 + k47)) (by omega)) rfl rfl w1 dX11_counts_81 ?_
                refine rd_get (own := RX11) (x := .int (f 23 (i + 1 + k47))) S hG.1 iX8 (mP_no hM (i := (i + 1 + k47)) (by omega)) 1 rfl (by decide) w5 rfl dX11_counts_84 ?_
                refine lv_iload_n hx hb dX11_counts_87 rfl (lv_at hl 2 rfl) ?_
                refine lv_icmp_ne (tgt := 112) hx hb dX11_counts_88 (by decide) (fun c7 => ?_) (fun c7 => ?_)
                · refine lv_iinc (v := nI ((i + 1 + k47) + 1)) (lv' := [(5, .int (nI ((i + 1 + k47) + 1))), (0, .ref (B 0)), (1, .int (nI i)), (2, .int d), (3, .int (nI bb)), (4, .ref (B (200 + i)))]) hx hb dX11_counts_112 hl (k := 0) rfl (nI_inc _) (by decide) rfl (fun ls hl => ?_)
                  refine lv_goto (tgt := 47) hx hb dX11_counts_115 (by decide) ?_
                  exact ih47 (k47 + 1) (by omega) (inv47.trans (by first | rfl | (simp only [fl, mCt, mCo, b2i, c1, c2, d2, c3, d3, c5, d5, c6, c7, ne_eq, not_true_eq_false, not_false_eq_true, and_true, true_and, and_false, false_and, or_true, true_or, or_false, false_or, and_self, or_self, decide_eq_true_eq, ↓reduceIte]; done) | (simp only [fl, mCt, mCo, b2i, c1, c2, d2, c3, d3, c5, d5, c6, c7, ne_eq, not_true_eq_false, not_false_eq_true, and_true, true_and, and_false, false_and, or_true, true_or, or_false, false_or, and_self, or_self, decide_eq_true_eq, ↓reduceIte]; rfl) | (simp [fl, mCt, mCo, b2i, c1, c2, d2, c3, d3, c5, d5, c6, c7]; done) | (simp only [fl, mCt, mCo, b2i, c1, c2, d2, c3, d3, c5, d5, c6, c7, ne_eq, not_true_eq_false, not_false_eq_true, and_true, true_and, and_false, false_and, or_true, true_or, or_false, false_or, and_self, or_self, decide_eq_true_eq, ↓reduceIte]))) ls (lv_sub hl [0, 1, 2, 3, 4, 5] rfl)
                · refine lv_aload_n hx hb dX11_counts_91 rfl (lv_at hl 1 rfl) ?_
                  refine rd_get (own := RX11) (x := .ref (B 7)) S hG.1 iX11 (mP_0 hM) 8 rfl (by decide) w0 rfl dX11_counts_92 ?_
                  refine lv_iload hx hb dX11_counts_95 (lv_at hl 0 rfl) ?_
                  refine rd_V (As := [.int (nI (i + 1 + k47))]) (rest := []) (v := some (.ref (B (200 + (i + 1 + k47))))) S hG (c_Jx4a65c_get_915e3 l G H (B 7) (eA G B cp 7 10) (mc 7) (g 5) (cp 7) (lsE B 200 (g 5)) (mP_7 hM) (mP_e7 hM (by omega)) hM.1.2.1.2.2.1 (hM.1.2.1.2.2.2.2 _) (i + 1 + k47) (B (200 + (i + 1 + k47))) (by omega) (lsE_at (by omega))) gX11_counts_Jx4a65c_get_915e3 rfl ⟨rfl, rfl⟩ nmJx4a65c_get_915e3 ⟨Nat.le_of_ble_eq_true rfl, Nat.le_of_ble_eq_true rfl⟩ (rd_rcv hG.1 (mP_7 hM) rfl) rfl hl.1 rfl (Nat.le_of_ble_eq_true rfl) ⟨Nat.zero_le _, Nat.zero_le _⟩ dX11_counts_97 ?_
                  refine W.eq (g2 := F0 mZ 100 ls [.ref (B (200 + (i + 1 + k47)))]) rfl ?_
                  refine rd_castS S hG.1 (mP_no hM (i := (i + 1 + k47)) (by omega)) rfl rfl w1 dX11_counts_100 ?_
                  refine rd_get (own := RX11) (x := .int (f 25 (i + 1 + k47))) S hG.1 iX8 (mP_no hM (i := (i + 1 + k47)) (by omega)) 3 rfl (by decide) w3 rfl dX11_counts_103 ?_
                  refine lv_iload_n hx hb dX11_counts_106 rfl (lv_at hl 3 rfl) ?_
                  refine lv_icmp_gt (tgt := 112) hx hb dX11_counts_107 (by decide) (fun c8 => ?_) (fun c8 => ?_)
                  · have d8 := Int32.not_le.mpr c8
                    refine lv_iinc (v := nI ((i + 1 + k47) + 1)) (lv' := [(5, .int (nI ((i + 1 + k47) + 1))), (0, .ref (B 0)), (1, .int (nI i)), (2, .int d), (3, .int (nI bb)), (4, .ref (B (200 + i)))]) hx hb dX11_counts_112 hl (k := 0) rfl (nI_inc _) (by decide) rfl (fun ls hl => ?_)
                    refine lv_goto (tgt := 47) hx hb dX11_counts_115 (by decide) ?_
                    exact ih47 (k47 + 1) (by omega) (inv47.trans (by first | rfl | (simp only [fl, mCt, mCo, b2i, c1, c2, d2, c3, d3, c5, d5, c6, c7, c8, d8, ne_eq, not_true_eq_false, not_false_eq_true, and_true, true_and, and_false, false_and, or_true, true_or, or_false, false_or, and_self, or_self, decide_eq_true_eq, ↓reduceIte]; done) | (simp only [fl, mCt, mCo, b2i, c1, c2, d2, c3, d3, c5, d5, c6, c7, c8, d8, ne_eq, not_true_eq_false, not_false_eq_true, and_true, true_and, and_false, false_and, or_true, true_or, or_false, false_or, and_self, or_self, decide_eq_true_eq, ↓reduceIte]; rfl) | (simp [fl, mCt, mCo, b2i, c1, c2, d2, c3, d3, c5, d5, c6, c7, c8, d8]; done) | (simp only [fl, mCt, mCo, b2i, c1, c2, d2, c3, d3, c5, d5, c6, c7, c8, d8, ne_eq, not_true_eq_false, not_false_eq_true, and_true, true_and, and_false, false_and, or_true, true_or, or_false, false_or, and_self, or_self, decide_eq_true_eq, ↓reduceIte]))) ls (lv_sub hl [0, 1, 2, 3, 4, 5] rfl)
                  · have d8 := Int32.not_lt.mp c8
                    refine lv_iconst (v := 0) hx hb dX11_counts_110 (by decide) ?_
                    exact rd_zret S hr hlk dX11_counts_111 (by first | rfl | exact nz_b2i _) (congrArg (fun z => some (Value.int z)) (by rw [inv47]; first | rfl | (simp only [mCt, mCo, b2i, c1, c2, d2, c3, d3, c5, d5, c6, c7, c8, d8, ne_eq, not_true_eq_false, not_false_eq_true, and_true, true_and, and_false, false_and, or_true, true_or, or_false, false_or, and_self, or_self, decide_eq_true_eq, ↓reduceIte]; done) | (simp [mCt, mCo, b2i, c1, c2, d2, c3, d3, c5, d5, c6, c7, c8, d8]; done) | (simp only [mCt, mCo, b2i, c1, c2, d2, c3, d3, c5, d5, c6, c7, c8, d8, ne_eq, not_true_eq_false, not_false_eq_true, and_true, true_and, and_false, false_and, or_true, true_or, or_false, false_or, and_self, or_self, decide_eq_true_eq, ↓reduceIte])))
        exact loop47 (bb - (i + 1)) 0 (by omega) (by first | rfl | (simp only [fl, mCt, mCo, b2i, c1, c2, d2, c3, d3, ne_eq, not_true_eq_false, not_false_eq_true, and_true, true_and, and_false, false_and, or_true, true_or, or_false, false_or, and_self, or_self, decide_eq_true_eq, ↓reduceIte]; done) | (simp only [fl, mCt, mCo, b2i, c1, c2, d2, c3, d3, ne_eq, not_true_eq_false, not_false_eq_true, and_true, true_and, and_false, false_and, or_true, true_or, or_false, false_or, and_self, or_self, decide_eq_true_eq, ↓reduceIte]; rfl) | (simp [fl, mCt, mCo, b2i, c1, c2, d2, c3, d3]; done) | (simp only [fl, mCt, mCo, b2i, c1, c2, d2, c3, d3, ne_eq, not_true_eq_false, not_false_eq_true, and_true, true_and, and_false, false_and, or_true, true_or, or_false, false_or, and_self, or_self, decide_eq_true_eq, ↓reduceIte])) ls (lv_sub hl [0, 2, 3, 4, 5, 1] rfl)
      · have d3 := Int32.not_le.mp c3
        refine lv_iconst (v := 0) hx hb dX11_counts_40 (by decide) ?_
        exact rd_zret S hr hlk dX11_counts_41 (by first | rfl | exact nz_b2i _) (congrArg (fun z => some (Value.int z)) (by first | rfl | (simp only [mCt, mCo, b2i, c1, c2, d2, c3, d3, ne_eq, not_true_eq_false, not_false_eq_true, and_true, true_and, and_false, false_and, or_true, true_or, or_false, false_or, and_self, or_self, decide_eq_true_eq, ↓reduceIte]; done) | (simp [mCt, mCo, b2i, c1, c2, d2, c3, d3]; done) | (simp only [mCt, mCo, b2i, c1, c2, d2, c3, d3, ne_eq, not_true_eq_false, not_false_eq_true, and_true, true_and, and_false, false_and, or_true, true_or, or_false, false_or, and_self, or_self, decide_eq_true_eq, ↓reduceIte])))

