/-! what is demanded, as the reference reckons it -/
theorem pN_t {f : Nat → Nat → Int32} {g : Nat → Nat} {k : Nat} {d w : Int32} (h : atq f g k d w) : pN f g d w k = true := by
  have h2 : k < g 1 ∧ ¬ nI k = w ∧ mTh f k d = true := h
  exact decide_eq_true h2
theorem pN_f {f : Nat → Nat → Int32} {g : Nat → Nat} {k : Nat} {d w : Int32} (h : ¬ atq f g k d w) : ¬ pN f g d w k = true := by
  intro z
  have h2 : k < g 1 ∧ ¬ nI k = w ∧ mTh f k d = true := of_decide_eq_true z
  exact h h2
theorem fM_lo {f : Nat → Nat → Int32} {n k : Nat} {x y t : Int32} (h : k < n) : fM f n x y t 10 k = f 10 k ∧ fM f n x y t 11 k = f 11 k ∧ fM f n x y t 12 k = f 12 k := by
  have hn : ¬ k = n := by omega
  exact ⟨if_neg hn, if_neg hn, if_neg hn⟩
theorem fM_hi (f : Nat → Nat → Int32) (n : Nat) (x y t : Int32) : fM f n x y t 10 n = x ∧ fM f n x y t 11 n = y ∧ fM f n x y t 12 n = t :=
  ⟨(if_pos rfl).trans rfl, (if_pos rfl).trans rfl, (if_pos rfl).trans rfl⟩
theorem pM_t {f : Nat → Nat → Int32} {g : Nat → Nat} {k : Nat} {d w a b : Int32} (h : atq f g k d w) : pM f g d w a b k = true := by
  have h2 : k < g 1 ∧ ¬ nI k = w ∧ mTh f k d = true := h
  unfold pM
  rw [if_pos h2.1]
  exact decide_eq_true h2.2
theorem pM_f {f : Nat → Nat → Int32} {g : Nat → Nat} {k : Nat} {d w a b : Int32} (hk : k < g 1) (h : ¬ atq f g k d w) : ¬ pM f g d w a b k = true := by
  unfold pM
  rw [if_pos hk]
  intro z
  have h2 : ¬ nI k = w ∧ mTh f k d = true := of_decide_eq_true z
  exact h ⟨hk, h2.1, h2.2⟩
theorem pM_ot {f : Nat → Nat → Int32} {g : Nat → Nat} {d w a b : Int32} (h : ¬ nI (g 1) = w ∧ thX a b d = true) : pM f g d w a b (g 1) = true := by
  unfold pM
  rw [if_neg (Nat.lt_irrefl _)]
  exact decide_eq_true h
theorem pM_of {f : Nat → Nat → Int32} {g : Nat → Nat} {d w a b : Int32} (h : ¬ (¬ nI (g 1) = w ∧ thX a b d = true)) : ¬ pM f g d w a b (g 1) = true := by
  unfold pM
  rw [if_neg (Nat.lt_irrefl _)]
  intro z
  exact h (of_decide_eq_true z)
theorem nmX11_demandedNow : nmV yX11_demandedNow RX11 4 := by decide +kernel

set_option maxHeartbeats 1000000 in
set_option maxRecDepth 100000 in
theorem c_X11_demandedNow_n (l : Launch) (G : GT) (B : Nat → Nat) (th : Int32) (mc : Nat → Int32) (cp : Nat → Nat) (f : Nat → Nat → Int32) (g : Nat → Nat) (H : Heap) (hM : MP G B th mc cp f g H)  (i : Nat) (d w : Int32) (hi : i < g 3) : RdV l G H yX11_demandedNow wsX11_demandedNow { frames := 4, cells := 0, slots := 0, locals := 89 } [.ref (B 0), .int (nI i), .int d, .int w, .null] (some (.int (dmd f f i (g 1 + 1) (pN f g d w)))) := by
  refine rd_of (cc := cX11_demandedNow) (maxL := 12) (ret := (some .int)) (by decide) rfl (Nat.le_of_ble_eq_true rfl) ?_
  intro pZ eZ sZ mZ bZ meZ cZ ls S hr hlk hl hHs hG
  have S : CallFix pZ mZ cZ cX11_demandedNow 12 sZ _ wsX11_demandedNow RX11 := S
  have hx := S.1
  have hb := S.2.1
  have hown := S.2.2.2.1
  have hts := S.2.2.2.2
  have hl : lv_has ls 12 [(0, .ref (B 0)), (1, .int (nI i)), (2, .int d), (3, .int w), (4, .null)] := hl
  have w0 := hts (.fieldLink RX11 23 "MinimaRoomModel" "procedures" "Ljava/util/ArrayList;") (by decide +kernel)
  have w1 := hts (.classLink RX11 59 "MinimaRoomModel$Procedure") (by decide +kernel)
  have w2 := hts (.fieldLink RX11 16 "MinimaRoomModel" "kinds" "[I") (by decide +kernel)
  have w3 := hts (.fieldLink RX11 61 "MinimaRoomModel$Procedure" "aid" "I") (by decide +kernel)
  have w4 := hts (.fieldLink RX11 67 "MinimaRoomModel" "BASES" "[I") (by decide +kernel)
  have w5 := hts (.fieldLink RX11 10 "MinimaRoomModel" "obstacles" "Ljava/util/ArrayList;") (by decide +kernel)
  have w6 := hts (.fieldLink RX11 74 "MinimaRoomModel$Obstacle" "x" "I") (by decide +kernel)
  have w7 := hts (.fieldLink RX11 79 "MinimaRoomModel" "MARGINS" "[I") (by decide +kernel)
  have w8 := hts (.fieldLink RX11 64 "MinimaRoomModel$Procedure" "slope" "I") (by decide +kernel)
  have iX11 : ∀ w ∈ u_ws RX11 TX11 11, w ∈ wsX11_demandedNow := by decide +kernel
  have iX10 : ∀ w ∈ u_ws RX10 TX10 3, w ∈ wsX11_demandedNow := by decide +kernel
  have iX9 : ∀ w ∈ u_ws RX9 TX9 5, w ∈ wsX11_demandedNow := by decide +kernel
  have m_max_86 : [.methodLink RX11 86 Lib.Math.max.name, .static Lib.Math.max.name, .initialized "java/lang/Math", .code Lib.Math.max.name Lib.Math.max.code 2 (some .int)] ⊆ wsX11_demandedNow := by decide +kernel
  have hI := hM.1
  have hgb := hI.1.1
  have hg0 := hI.1.2.1
  have hg1 := hI.1.2.2.1
  have hg3 := hI.1.2.2.2.1
  have hg4 := hI.1.2.2.2.2.1
  have hg5 := hI.1.2.2.2.2.2
  refine lv_aload_n hx hb dX11_demandedNow_0 rfl (lv_at hl 0 rfl) ?_
  refine rd_get (own := RX11) (x := .ref (B 6)) S hG.1 iX11 (mP_0 hM) 7 rfl (by decide) w0 rfl dX11_demandedNow_1 ?_
  refine lv_iload_n hx hb dX11_demandedNow_4 rfl (lv_at hl 1 rfl) ?_
  refine rd_V (As := [.int (nI i)]) (rest := []) (v := some (.ref (B (40 + i)))) S hG (c_Jx4a65c_get_915e3 l G H (B 6) (eA G B cp 6 9) (mc 6) (g 3) (cp 6) (lsE B 40 (g 3)) (mP_6 hM) (mP_e6 hM (by omega)) hM.1.2.1.2.1 (hM.1.2.1.2.2.2.2 _) i (B (40 + i)) (by omega) (lsE_at (by omega))) gX11_demandedNow_Jx4a65c_get_915e3 rfl ⟨rfl, rfl⟩ nmJx4a65c_get_915e3 ⟨Nat.le_of_ble_eq_true rfl, Nat.le_of_ble_eq_true rfl⟩ (rd_rcv hG.1 (mP_6 hM) rfl) rfl hl.1 rfl (Nat.le_of_ble_eq_true rfl) ⟨Nat.zero_le _, Nat.zero_le _⟩ dX11_demandedNow_5 ?_
  refine W.eq (g2 := F0 mZ 8 ls [.ref (B (40 + i))]) rfl ?_
  refine rd_castS S hG.1 (mP_pr hM (i := i) (by omega)) rfl rfl w1 dX11_demandedNow_8 ?_
  refine lv_astore (lv' := [(5, .ref (B (40 + i))), (0, .ref (B 0)), (1, .int (nI i)), (2, .int d), (3, .int w), (4, .null)]) hx hb dX11_demandedNow_11 hl (by decide) rfl (fun ls hl => ?_)
  refine lv_aload_n hx hb dX11_demandedNow_13 rfl (lv_at hl 1 rfl) ?_
  refine rd_get (own := RX11) (x := .ref (B 1)) S hG.1 iX11 (mP_0 hM) 5 rfl (by decide) w2 rfl dX11_demandedNow_14 ?_
  refine lv_aload hx hb dX11_demandedNow_17 (lv_at hl 0 rfl) ?_
  refine rd_get (own := RX11) (x := .int (f 17 i)) S hG.1 iX10 (mP_pr hM (i := i) (by omega)) 0 rfl (by decide) w3 rfl dX11_demandedNow_19 ?_
  refine rd_iald S hG.1 (mP_1 hM) (vp_aid hI (by omega)) dX11_demandedNow_22 ?_
  refine W.eq (g2 := F0 mZ 23 ls [.int (mKi f i)]) rfl ?_
  refine lv_istore (lv' := [(6, .int (mKi f i)), (5, .ref (B (40 + i))), (0, .ref (B 0)), (1, .int (nI i)), (2, .int d), (3, .int w), (4, .null)]) hx hb dX11_demandedNow_23 hl (by decide) rfl (fun ls hl => ?_)
  refine lv_iload hx hb dX11_demandedNow_25 (lv_at hl 0 rfl) ?_
  refine lv_if_ne (tgt := 38) hx hb dX11_demandedNow_27 (by decide) (fun c1 => ?_) (fun c1 => ?_)
  · refine lv_iconst (v := (-1)) hx hb dX11_demandedNow_38 (by decide) ?_
    refine W.eq (g2 := F0 mZ 39 ls [.int (mSl f i)]) (congrArg (fun z => F0 mZ 39 ls [Value.int z]) (if_neg c1).symm) ?_
    refine lv_istore (lv' := [(7, .int (mSl f i)), (6, .int (mKi f i)), (5, .ref (B (40 + i))), (0, .ref (B 0)), (1, .int (nI i)), (2, .int d), (3, .int w), (4, .null)]) hx hb dX11_demandedNow_39 hl (by decide) rfl (fun ls hl => ?_)
    refine rd_gets (own := RX11) (x := .ref (G.2.2.2 1)) S hHs hG.2.2.2.2.1.2.1 w4 dX11_demandedNow_41 ?_
    refine lv_iload hx hb dX11_demandedNow_44 (lv_at hl 1 rfl) ?_
    refine rd_tald S hG.2.2.2.2.2.2.1 (vp_ki hI (by omega)) dX11_demandedNow_46 ?_
    refine W.eq (g2 := F0 mZ 47 ls [.int (bases (cnt (mKi f i)))]) rfl ?_
    refine lv_istore (lv' := [(8, .int (bases (cnt (mKi f i)))), (7, .int (mSl f i)), (6, .int (mKi f i)), (5, .ref (B (40 + i))), (0, .ref (B 0)), (1, .int (nI i)), (2, .int d), (3, .int w), (4, .null)]) hx hb dX11_demandedNow_47 hl (by decide) rfl (fun ls hl => ?_)
    refine lv_iconst (v := 0) hx hb dX11_demandedNow_49 (by decide) ?_
    refine lv_istore (lv' := [(9, .int 0), (8, .int (bases (cnt (mKi f i)))), (7, .int (mSl f i)), (6, .int (mKi f i)), (5, .ref (B (40 + i))), (0, .ref (B 0)), (1, .int (nI i)), (2, .int d), (3, .int w), (4, .null)]) hx hb dX11_demandedNow_50 hl (by decide) rfl (fun ls hl => ?_)
    have loop52 : ∀ (n52 k52 : Nat), k52 + n52 = g 1 + 1 → ∀ (z52_8 : Int32), z52_8 = fl k52 (fun j h => if pN f g d w j = true ∧ ¬ f 10 j < 0 then imax h (mNd (f 10 j) (f 11 j) (f 12 j) (mMg f i) (mSl f i)) else h) (bases (cnt (mKi f i))) → ∀ (ls : Array Slot), lv_has ls 12 [(9, .int (nI k52)), (8, .int z52_8), (0, .ref (B 0)), (1, .int (nI i)), (2, .int d), (3, .int w), (4, .null), (5, .ref (B (40 + i))), (6, .int (mKi f i)), (7, .int (mSl f i))] → W pZ l eZ ({ frames := 4, cells := 0, slots := 0, locals := 89 } : Room) sZ mZ ([.ref (B 0), .int (nI i), .int d, .int w, .null] : List Value).toArray bZ meZ cZ H [] 0 0 (rd_Q bZ H [.ref (B 0), .int (nI i), .int d, .int w, .null] sZ (some (.int (dmd f f i (g 1 + 1) (pN f g d w))))) (F0 mZ 52 ls []) := by
      intro n52
      induction n52 with
      | zero =>
        intro k52 hk52 z52_8 ez52_8 ls hl
        obtain rfl : k52 = g 1 + 1 := by omega
        refine lv_iload hx hb dX11_demandedNow_52 (lv_at hl 0 rfl) ?_
        refine lv_aload_n hx hb dX11_demandedNow_54 rfl (lv_at hl 2 rfl) ?_
        refine rd_get (own := RX11) (x := .ref (B 5)) S hG.1 iX11 (mP_0 hM) 4 rfl (by decide) w5 rfl dX11_demandedNow_55 ?_
        refine rd_V (As := []) (rest := [.int (nI (g 1 + 1))]) (v := some (.int (nI (g 1)))) S hG (c_Jx4a65c_size_8abf5 l G H (B 5) (eA G B cp 5 8) (mc 5) (nI (g 1)) (mP_5 hM)) gX11_demandedNow_Jx4a65c_size_8abf5 rfl ⟨rfl, rfl⟩ nmJx4a65c_size_8abf5 ⟨Nat.le_of_ble_eq_true rfl, Nat.le_of_ble_eq_true rfl⟩ (rd_rcv hG.1 (mP_5 hM) rfl) rfl hl.1 rfl (Nat.le_of_ble_eq_true rfl) ⟨Nat.zero_le _, Nat.zero_le _⟩ dX11_demandedNow_58 ?_
        refine W.eq (g2 := F0 mZ 61 ls [.int (nI (g 1)), .int (nI (g 1 + 1))]) rfl ?_
        refine lv_icmp_gt (tgt := 115) hx hb dX11_demandedNow_61 (by decide) (fun c2 => ?_) (fun c2 => ?_)
        · have d2 := Int32.not_le.mpr c2
          refine lv_iconst (v := 0) hx hb dX11_demandedNow_115 (by decide) ?_
          refine lv_istore (lv' := [(9, .int 0), (8, .int z52_8), (0, .ref (B 0)), (1, .int (nI i)), (2, .int d), (3, .int w), (4, .null), (5, .ref (B (40 + i))), (6, .int (mKi f i)), (7, .int (mSl f i))]) hx hb dX11_demandedNow_116 hl (by decide) rfl (fun ls hl => ?_)
          have ez_ : z52_8 = dmH f f i (g 1 + 1) (pN f g d w) := ez52_8
          rw [ez_] at hl
          refine lv_iconst (v := 0) hx hb dX11_demandedNow_118 (by decide) ?_
          refine lv_istore (lv' := [(10, .int 0), (9, .int 0), (8, .int (dmH f f i (g 1 + 1) (pN f g d w))), (0, .ref (B 0)), (1, .int (nI i)), (2, .int d), (3, .int w), (4, .null), (5, .ref (B (40 + i))), (6, .int (mKi f i)), (7, .int (mSl f i))]) hx hb dX11_demandedNow_119 hl (by decide) rfl (fun ls hl => ?_)
          have loop121 : ∀ (n121 k121 : Nat), k121 + n121 = g 1 + 1 → ∀ (z121_9 : Int32), z121_9 = fl k121 (fun j a9 => if pN f g d w j = true ∧ f 10 j < 0 then imax a9 (mAb (f 12 j) (f 10 j) (dmH f f i (g 1 + 1) (pN f g d w))) else a9) 0 → ∀ (ls : Array Slot), lv_has ls 12 [(10, .int (nI k121)), (9, .int z121_9), (0, .ref (B 0)), (1, .int (nI i)), (2, .int d), (3, .int w), (4, .null), (5, .ref (B (40 + i))), (6, .int (mKi f i)), (7, .int (mSl f i)), (8, .int (dmH f f i (g 1 + 1) (pN f g d w)))] → W pZ l eZ ({ frames := 4, cells := 0, slots := 0, locals := 89 } : Room) sZ mZ ([.ref (B 0), .int (nI i), .int d, .int w, .null] : List Value).toArray bZ meZ cZ H [] 0 0 (rd_Q bZ H [.ref (B 0), .int (nI i), .int d, .int w, .null] sZ (some (.int (dmd f f i (g 1 + 1) (pN f g d w))))) (F0 mZ 121 ls []) := by
            intro n121
            induction n121 with
            | zero =>
              intro k121 hk121 z121_9 ez121_9 ls hl
              obtain rfl : k121 = g 1 + 1 := by omega
              refine lv_iload hx hb dX11_demandedNow_121 (lv_at hl 0 rfl) ?_
              refine lv_aload_n hx hb dX11_demandedNow_123 rfl (lv_at hl 2 rfl) ?_
              refine rd_get (own := RX11) (x := .ref (B 5)) S hG.1 iX11 (mP_0 hM) 4 rfl (by decide) w5 rfl dX11_demandedNow_124 ?_
              refine rd_V (As := []) (rest := [.int (nI (g 1 + 1))]) (v := some (.int (nI (g 1)))) S hG (c_Jx4a65c_size_8abf5 l G H (B 5) (eA G B cp 5 8) (mc 5) (nI (g 1)) (mP_5 hM)) gX11_demandedNow_Jx4a65c_size_8abf5 rfl ⟨rfl, rfl⟩ nmJx4a65c_size_8abf5 ⟨Nat.le_of_ble_eq_true rfl, Nat.le_of_ble_eq_true rfl⟩ (rd_rcv hG.1 (mP_5 hM) rfl) rfl hl.1 rfl (Nat.le_of_ble_eq_true rfl) ⟨Nat.zero_le _, Nat.zero_le _⟩ dX11_demandedNow_127 ?_
              refine W.eq (g2 := F0 mZ 130 ls [.int (nI (g 1)), .int (nI (g 1 + 1))]) rfl ?_
              refine lv_icmp_gt (tgt := 178) hx hb dX11_demandedNow_130 (by decide) (fun c3 => ?_) (fun c3 => ?_)
              · have d3 := Int32.not_le.mpr c3
                refine lv_iload hx hb dX11_demandedNow_178 (lv_at hl 10 rfl) ?_
                refine lv_iload hx hb dX11_demandedNow_180 (lv_at hl 1 rfl) ?_
                refine lv_iadd hx hb dX11_demandedNow_182 ?_
                refine lv_bipush (v := 9) hx hb dX11_demandedNow_183 (by decide) ?_
                refine lv_iadd hx hb dX11_demandedNow_185 ?_
                refine lv_bipush (v := 10) hx hb dX11_demandedNow_186 (by decide) ?_
                refine lv_idiv hx hb dX11_demandedNow_188 (by decide) ?_
                refine lv_bipush (v := 10) hx hb dX11_demandedNow_189 (by decide) ?_
                refine lv_imul hx hb dX11_demandedNow_191 ?_
                exact rd_iret S hr hlk dX11_demandedNow_192 (congrArg (fun z => some (Value.int z)) (by subst ez121_9; rfl))
              · first | exact absurd c3 c2 | exact absurd c2 c3 | exact absurd (Int32.not_lt.mp c3) (Int32.not_le.mpr c2) | exact absurd (Int32.not_lt.mpr c3) (by simp only [Int32.not_lt]; exact c2)
            | succ n121 ih121 =>
              intro k121 hk121 z121_9 ez121_9 ls hl
              refine lv_iload hx hb dX11_demandedNow_121 (lv_at hl 0 rfl) ?_
              refine lv_aload_n hx hb dX11_demandedNow_123 rfl (lv_at hl 2 rfl) ?_
              refine rd_get (own := RX11) (x := .ref (B 5)) S hG.1 iX11 (mP_0 hM) 4 rfl (by decide) w5 rfl dX11_demandedNow_124 ?_
              refine rd_V (As := []) (rest := [.int (nI k121)]) (v := some (.int (nI (g 1)))) S hG (c_Jx4a65c_size_8abf5 l G H (B 5) (eA G B cp 5 8) (mc 5) (nI (g 1)) (mP_5 hM)) gX11_demandedNow_Jx4a65c_size_8abf5 rfl ⟨rfl, rfl⟩ nmJx4a65c_size_8abf5 ⟨Nat.le_of_ble_eq_true rfl, Nat.le_of_ble_eq_true rfl⟩ (rd_rcv hG.1 (mP_5 hM) rfl) rfl hl.1 rfl (Nat.le_of_ble_eq_true rfl) ⟨Nat.zero_le _, Nat.zero_le _⟩ dX11_demandedNow_127 ?_
              refine W.eq (g2 := F0 mZ 130 ls [.int (nI (g 1)), .int (nI k121)]) rfl ?_
              refine lv_icmp_gt (tgt := 178) hx hb dX11_demandedNow_130 (by decide) (fun c4 => ?_) (fun c4 => ?_)
              · exact absurd c4 (nI_nlt (by omega) (by omega))
              · have d4 := Int32.not_lt.mp c4
                refine lv_aload_n hx hb dX11_demandedNow_133 rfl (lv_at hl 2 rfl) ?_
                refine lv_iload hx hb dX11_demandedNow_134 (lv_at hl 0 rfl) ?_
                refine lv_iload_n hx hb dX11_demandedNow_136 rfl (lv_at hl 4 rfl) ?_
                refine lv_iload_n hx hb dX11_demandedNow_137 rfl (lv_at hl 5 rfl) ?_
                refine lv_aloadN hx hb dX11_demandedNow_138 (lv_at hl 6 rfl) ?_
                rcases Classical.em (atq f g k121 d w) with q5 | q5
                · have q5p : pN f g d w k121 = true := pN_t q5
                  have q5k := q5.1
                  refine rd_V (As := [.int (nI k121), .int d, .int w, .null]) (rest := []) (v := some (.ref (B (20 + k121)))) S hG (c_X11_at_t l G B th mc cp f g H hM k121 d w q5) gX11_demandedNow_X11_at rfl ⟨rfl, rfl⟩ nmX11_at ⟨Nat.le_of_ble_eq_true rfl, Nat.le_of_ble_eq_true rfl⟩ (rd_rcv hG.1 (mP_0 hM) rfl) rfl hl.1 rfl (Nat.le_of_ble_eq_true rfl) ⟨Nat.zero_le _, Nat.zero_le _⟩ dX11_demandedNow_140 ?_
                  refine W.eq (g2 := F0 mZ 143 ls [.ref (B (20 + k121))]) rfl ?_
                  refine lv_astore (lv' := [(11, .ref (B (20 + k121))), (10, .int (nI k121)), (9, .int z121_9), (0, .ref (B 0)), (1, .int (nI i)), (2, .int d), (3, .int w), (4, .null), (5, .ref (B (40 + i))), (6, .int (mKi f i)), (7, .int (mSl f i)), (8, .int (dmH f f i (g 1 + 1) (pN f g d w)))]) hx hb dX11_demandedNow_143 hl (by decide) rfl (fun ls hl => ?_)
                  refine lv_aload hx hb dX11_demandedNow_145 (lv_at hl 0 rfl) ?_
                  refine lv_ifnull hx hb dX11_demandedNow_147 ?_
                  refine lv_aload hx hb dX11_demandedNow_150 (lv_at hl 0 rfl) ?_
                  refine rd_get (own := RX11) (x := .int (f 10 k121)) S hG.1 iX9 (mP_ob hM (i := k121) (by omega)) 0 rfl (by decide) w6 rfl dX11_demandedNow_152 ?_
                  refine lv_if_ge (tgt := 172) hx hb dX11_demandedNow_155 (by decide) (fun c6 => ?_) (fun c6 => ?_)
                  · have d6 := Int32.not_lt.mpr c6
                    refine lv_iinc (v := nI (k121 + 1)) (lv' := [(10, .int (nI (k121 + 1))), (11, .ref (B (20 + k121))), (9, .int z121_9), (0, .ref (B 0)), (1, .int (nI i)), (2, .int d), (3, .int w), (4, .null), (5, .ref (B (40 + i))), (6, .int (mKi f i)), (7, .int (mSl f i)), (8, .int (dmH f f i (g 1 + 1) (pN f g d w)))]) hx hb dX11_demandedNow_172 hl (k := 1) rfl (nI_inc _) (by decide) rfl (fun ls hl => ?_)
                    refine lv_goto (tgt := 121) hx hb dX11_demandedNow_175 (by decide) ?_
                    exact ih121 (k121 + 1) (by omega) _ (by subst ez121_9; first | rfl | (simp only [fl, c1, c2, d2, c4, d4, q5p, c6, d6, ne_eq, not_true_eq_false, not_false_eq_true, and_true, true_and, and_false, false_and, or_true, true_or, or_false, false_or, and_self, or_self, decide_eq_true_eq, ↓reduceIte]; done) | (simp only [fl, c1, c2, d2, c4, d4, q5p, c6, d6, ne_eq, not_true_eq_false, not_false_eq_true, and_true, true_and, and_false, false_and, or_true, true_or, or_false, false_or, and_self, or_self, decide_eq_true_eq, ↓reduceIte]; rfl) | (simp [fl, c1, c2, d2, c4, d4, q5p, c6, d6]; done) | (simp only [fl, c1, c2, d2, c4, d4, q5p, c6, d6, ne_eq, not_true_eq_false, not_false_eq_true, and_true, true_and, and_false, false_and, or_true, true_or, or_false, false_or, and_self, or_self, decide_eq_true_eq, ↓reduceIte])) ls (lv_sub hl [0, 2, 3, 4, 5, 6, 7, 8, 9, 10, 11] rfl)
                  · have d6 := Int32.not_le.mp c6
                    refine lv_iload hx hb dX11_demandedNow_158 (lv_at hl 2 rfl) ?_
                    refine lv_aload hx hb dX11_demandedNow_160 (lv_at hl 0 rfl) ?_
                    refine lv_iload hx hb dX11_demandedNow_162 (lv_at hl 11 rfl) ?_
                    refine rd_V (As := [.int (dmH f f i (g 1 + 1) (pN f g d w))]) (rest := [.int z121_9]) (v := some (.int (mAb (f 12 k121) (f 10 k121) (dmH f f i (g 1 + 1) (pN f g d w))))) S hG (c_X9_above l G H (B (20 + k121)) (f 10 k121) (f 11 k121) (f 12 k121) (f 13 k121) (f 14 k121) (mP_ob hM (i := k121) (by omega)) (dmH f f i (g 1 + 1) (pN f g d w))) gX11_demandedNow_X9_above rfl ⟨rfl, rfl⟩ nmX9_above ⟨Nat.le_of_ble_eq_true rfl, Nat.le_of_ble_eq_true rfl⟩ (rd_rcv hG.1 (mP_ob hM (i := k121) (by omega)) rfl) rfl hl.1 rfl (Nat.le_of_ble_eq_true rfl) ⟨Nat.zero_le _, Nat.zero_le _⟩ dX11_demandedNow_164 ?_
                    refine W.eq (g2 := F0 mZ 167 ls [.int (mAb (f 12 k121) (f 10 k121) (dmH f f i (g 1 + 1) (pN f g d w))), .int z121_9]) rfl ?_
                    refine rd_max S hl.1 m_max_86 ⟨Nat.le_of_ble_eq_true rfl, Nat.le_of_ble_eq_true rfl⟩ (Nat.le_of_ble_eq_true rfl) ⟨Nat.zero_le _, Nat.zero_le _⟩ dX11_demandedNow_167 ?_
                    refine W.eq (g2 := F0 mZ 170 ls [.int (imax z121_9 (mAb (f 12 k121) (f 10 k121) (dmH f f i (g 1 + 1) (pN f g d w))))]) rfl ?_
                    refine lv_topi (fun x7 ex7 => ?_)
                    refine lv_istore (lv' := [(9, .int x7), (11, .ref (B (20 + k121))), (10, .int (nI k121)), (0, .ref (B 0)), (1, .int (nI i)), (2, .int d), (3, .int w), (4, .null), (5, .ref (B (40 + i))), (6, .int (mKi f i)), (7, .int (mSl f i)), (8, .int (dmH f f i (g 1 + 1) (pN f g d w)))]) hx hb dX11_demandedNow_170 hl (by decide) rfl (fun ls hl => ?_)
                    refine lv_iinc (v := nI (k121 + 1)) (lv' := [(10, .int (nI (k121 + 1))), (9, .int x7), (11, .ref (B (20 + k121))), (0, .ref (B 0)), (1, .int (nI i)), (2, .int d), (3, .int w), (4, .null), (5, .ref (B (40 + i))), (6, .int (mKi f i)), (7, .int (mSl f i)), (8, .int (dmH f f i (g 1 + 1) (pN f g d w)))]) hx hb dX11_demandedNow_172 hl (k := 2) rfl (nI_inc _) (by decide) rfl (fun ls hl => ?_)
                    refine lv_goto (tgt := 121) hx hb dX11_demandedNow_175 (by decide) ?_
                    exact ih121 (k121 + 1) (by omega) _ (by subst ex7; subst ez121_9; first | rfl | (simp only [fl, c1, c2, d2, c4, d4, q5p, c6, d6, ne_eq, not_true_eq_false, not_false_eq_true, and_true, true_and, and_false, false_and, or_true, true_or, or_false, false_or, and_self, or_self, decide_eq_true_eq, ↓reduceIte]; done) | (simp only [fl, c1, c2, d2, c4, d4, q5p, c6, d6, ne_eq, not_true_eq_false, not_false_eq_true, and_true, true_and, and_false, false_and, or_true, true_or, or_false, false_or, and_self, or_self, decide_eq_true_eq, ↓reduceIte]; rfl) | (simp [fl, c1, c2, d2, c4, d4, q5p, c6, d6]; done) | (simp only [fl, c1, c2, d2, c4, d4, q5p, c6, d6, ne_eq, not_true_eq_false, not_false_eq_true, and_true, true_and, and_false, false_and, or_true, true_or, or_false, false_or, and_self, or_self, decide_eq_true_eq, ↓reduceIte])) ls (lv_sub hl [0, 1, 3, 4, 5, 6, 7, 8, 9, 10, 11] rfl)
                · have q5p : ¬ pN f g d w k121 = true := pN_f q5
                  refine rd_V (As := [.int (nI k121), .int d, .int w, .null]) (rest := []) (v := some (.null)) S hG (c_X11_at_f l G B th mc cp f g H hM k121 d w (by omega) q5) gX11_demandedNow_X11_at rfl ⟨rfl, rfl⟩ nmX11_at ⟨Nat.le_of_ble_eq_true rfl, Nat.le_of_ble_eq_true rfl⟩ (rd_rcv hG.1 (mP_0 hM) rfl) rfl hl.1 rfl (Nat.le_of_ble_eq_true rfl) ⟨Nat.zero_le _, Nat.zero_le _⟩ dX11_demandedNow_140 ?_
                  refine W.eq (g2 := F0 mZ 143 ls [.null]) rfl ?_
                  refine lv_astoreN (lv' := [(11, .null), (10, .int (nI k121)), (9, .int z121_9), (0, .ref (B 0)), (1, .int (nI i)), (2, .int d), (3, .int w), (4, .null), (5, .ref (B (40 + i))), (6, .int (mKi f i)), (7, .int (mSl f i)), (8, .int (dmH f f i (g 1 + 1) (pN f g d w)))]) hx hb dX11_demandedNow_143 hl (by decide) rfl (fun ls hl => ?_)
                  refine lv_aloadN hx hb dX11_demandedNow_145 (lv_at hl 0 rfl) ?_
                  refine lv_ifnullN (tgt := 172) hx hb dX11_demandedNow_147 (by decide) ?_
                  refine lv_iinc (v := nI (k121 + 1)) (lv' := [(10, .int (nI (k121 + 1))), (11, .null), (9, .int z121_9), (0, .ref (B 0)), (1, .int (nI i)), (2, .int d), (3, .int w), (4, .null), (5, .ref (B (40 + i))), (6, .int (mKi f i)), (7, .int (mSl f i)), (8, .int (dmH f f i (g 1 + 1) (pN f g d w)))]) hx hb dX11_demandedNow_172 hl (k := 1) rfl (nI_inc _) (by decide) rfl (fun ls hl => ?_)
                  refine lv_goto (tgt := 121) hx hb dX11_demandedNow_175 (by decide) ?_
                  exact ih121 (k121 + 1) (by omega) _ (by subst ez121_9; first | rfl | (simp only [fl, c1, c2, d2, c4, d4, q5p, ne_eq, not_true_eq_false, not_false_eq_true, and_true, true_and, and_false, false_and, or_true, true_or, or_false, false_or, and_self, or_self, decide_eq_true_eq, ↓reduceIte]; done) | (simp only [fl, c1, c2, d2, c4, d4, q5p, ne_eq, not_true_eq_false, not_false_eq_true, and_true, true_and, and_false, false_and, or_true, true_or, or_false, false_or, and_self, or_self, decide_eq_true_eq, ↓reduceIte]; rfl) | (simp [fl, c1, c2, d2, c4, d4, q5p]; done) | (simp only [fl, c1, c2, d2, c4, d4, q5p, ne_eq, not_true_eq_false, not_false_eq_true, and_true, true_and, and_false, false_and, or_true, true_or, or_false, false_or, and_self, or_self, decide_eq_true_eq, ↓reduceIte])) ls (lv_sub hl [0, 2, 3, 4, 5, 6, 7, 8, 9, 10, 11] rfl)
          exact loop121 (g 1 + 1) 0 (by omega) _ (by first | rfl | first | rfl | (simp only [fl, c1, c2, d2, ne_eq, not_true_eq_false, not_false_eq_true, and_true, true_and, and_false, false_and, or_true, true_or, or_false, false_or, and_self, or_self, decide_eq_true_eq, ↓reduceIte]; done) | (simp only [fl, c1, c2, d2, ne_eq, not_true_eq_false, not_false_eq_true, and_true, true_and, and_false, false_and, or_true, true_or, or_false, false_or, and_self, or_self, decide_eq_true_eq, ↓reduceIte]; rfl) | (simp [fl, c1, c2, d2]; done) | (simp only [fl, c1, c2, d2, ne_eq, not_true_eq_false, not_false_eq_true, and_true, true_and, and_false, false_and, or_true, true_or, or_false, false_or, and_self, or_self, decide_eq_true_eq, ↓reduceIte])) ls (lv_sub hl [0, 1, 3, 4, 5, 6, 7, 8, 9, 10, 2] rfl)
        · exact absurd (nI_lt (by omega) (by omega)) c2
      | succ n52 ih52 =>
        intro k52 hk52 z52_8 ez52_8 ls hl
        refine lv_iload hx hb dX11_demandedNow_52 (lv_at hl 0 rfl) ?_
        refine lv_aload_n hx hb dX11_demandedNow_54 rfl (lv_at hl 2 rfl) ?_
        refine rd_get (own := RX11) (x := .ref (B 5)) S hG.1 iX11 (mP_0 hM) 4 rfl (by decide) w5 rfl dX11_demandedNow_55 ?_
        refine rd_V (As := []) (rest := [.int (nI k52)]) (v := some (.int (nI (g 1)))) S hG (c_Jx4a65c_size_8abf5 l G H (B 5) (eA G B cp 5 8) (mc 5) (nI (g 1)) (mP_5 hM)) gX11_demandedNow_Jx4a65c_size_8abf5 rfl ⟨rfl, rfl⟩ nmJx4a65c_size_8abf5 ⟨Nat.le_of_ble_eq_true rfl, Nat.le_of_ble_eq_true rfl⟩ (rd_rcv hG.1 (mP_5 hM) rfl) rfl hl.1 rfl (Nat.le_of_ble_eq_true rfl) ⟨Nat.zero_le _, Nat.zero_le _⟩ dX11_demandedNow_58 ?_
        refine W.eq (g2 := F0 mZ 61 ls [.int (nI (g 1)), .int (nI k52)]) rfl ?_
        refine lv_icmp_gt (tgt := 115) hx hb dX11_demandedNow_61 (by decide) (fun c8 => ?_) (fun c8 => ?_)
        · exact absurd c8 (nI_nlt (by omega) (by omega))
        · have d8 := Int32.not_lt.mp c8
          refine lv_aload_n hx hb dX11_demandedNow_64 rfl (lv_at hl 2 rfl) ?_
          refine lv_iload hx hb dX11_demandedNow_65 (lv_at hl 0 rfl) ?_
          refine lv_iload_n hx hb dX11_demandedNow_67 rfl (lv_at hl 4 rfl) ?_
          refine lv_iload_n hx hb dX11_demandedNow_68 rfl (lv_at hl 5 rfl) ?_
          refine lv_aloadN hx hb dX11_demandedNow_69 (lv_at hl 6 rfl) ?_
          rcases Classical.em (atq f g k52 d w) with q9 | q9
          · have q9p : pN f g d w k52 = true := pN_t q9
            have q9k := q9.1
            refine rd_V (As := [.int (nI k52), .int d, .int w, .null]) (rest := []) (v := some (.ref (B (20 + k52)))) S hG (c_X11_at_t l G B th mc cp f g H hM k52 d w q9) gX11_demandedNow_X11_at rfl ⟨rfl, rfl⟩ nmX11_at ⟨Nat.le_of_ble_eq_true rfl, Nat.le_of_ble_eq_true rfl⟩ (rd_rcv hG.1 (mP_0 hM) rfl) rfl hl.1 rfl (Nat.le_of_ble_eq_true rfl) ⟨Nat.zero_le _, Nat.zero_le _⟩ dX11_demandedNow_71 ?_
            refine W.eq (g2 := F0 mZ 74 ls [.ref (B (20 + k52))]) rfl ?_
            refine lv_astore (lv' := [(10, .ref (B (20 + k52))), (9, .int (nI k52)), (8, .int z52_8), (0, .ref (B 0)), (1, .int (nI i)), (2, .int d), (3, .int w), (4, .null), (5, .ref (B (40 + i))), (6, .int (mKi f i)), (7, .int (mSl f i))]) hx hb dX11_demandedNow_74 hl (by decide) rfl (fun ls hl => ?_)
            refine lv_aload hx hb dX11_demandedNow_76 (lv_at hl 0 rfl) ?_
            refine lv_ifnull hx hb dX11_demandedNow_78 ?_
            refine lv_aload hx hb dX11_demandedNow_81 (lv_at hl 0 rfl) ?_
            refine rd_get (own := RX11) (x := .int (f 10 k52)) S hG.1 iX9 (mP_ob hM (i := k52) (by omega)) 0 rfl (by decide) w6 rfl dX11_demandedNow_83 ?_
            refine lv_if_lt (tgt := 109) hx hb dX11_demandedNow_86 (by decide) (fun c10 => ?_) (fun c10 => ?_)
            · have d10 := Int32.not_le.mpr c10
              refine lv_iinc (v := nI (k52 + 1)) (lv' := [(9, .int (nI (k52 + 1))), (10, .ref (B (20 + k52))), (8, .int z52_8), (0, .ref (B 0)), (1, .int (nI i)), (2, .int d), (3, .int w), (4, .null), (5, .ref (B (40 + i))), (6, .int (mKi f i)), (7, .int (mSl f i))]) hx hb dX11_demandedNow_109 hl (k := 1) rfl (nI_inc _) (by decide) rfl (fun ls hl => ?_)
              refine lv_goto (tgt := 52) hx hb dX11_demandedNow_112 (by decide) ?_
              exact ih52 (k52 + 1) (by omega) _ (by subst ez52_8; first | rfl | (simp only [fl, c1, c8, d8, q9p, c10, d10, ne_eq, not_true_eq_false, not_false_eq_true, and_true, true_and, and_false, false_and, or_true, true_or, or_false, false_or, and_self, or_self, decide_eq_true_eq, ↓reduceIte]; done) | (simp only [fl, c1, c8, d8, q9p, c10, d10, ne_eq, not_true_eq_false, not_false_eq_true, and_true, true_and, and_false, false_and, or_true, true_or, or_false, false_or, and_self, or_self, decide_eq_true_eq, ↓reduceIte]; rfl) | (simp [fl, c1, c8, d8, q9p, c10, d10]; done) | (simp only [fl, c1, c8, d8, q9p, c10, d10, ne_eq, not_true_eq_false, not_false_eq_true, and_true, true_and, and_false, false_and, or_true, true_or, or_false, false_or, and_self, or_self, decide_eq_true_eq, ↓reduceIte])) ls (lv_sub hl [0, 2, 3, 4, 5, 6, 7, 8, 9, 10] rfl)
            · have d10 := Int32.not_lt.mp c10
              refine lv_iload hx hb dX11_demandedNow_89 (lv_at hl 2 rfl) ?_
              refine lv_aload hx hb dX11_demandedNow_91 (lv_at hl 0 rfl) ?_
              refine rd_gets (own := RX11) (x := .ref (G.2.2.2 2)) S hHs hG.2.2.2.2.1.2.2 w7 dX11_demandedNow_93 ?_
              refine lv_iload hx hb dX11_demandedNow_96 (lv_at hl 9 rfl) ?_
              refine rd_tald S hG.2.2.2.2.2.2.2 (vp_ki hI (by omega)) dX11_demandedNow_98 ?_
              refine W.eq (g2 := F0 mZ 99 ls [.int (mMg f i), .ref (B (20 + k52)), .int z52_8]) rfl ?_
              refine lv_iload hx hb dX11_demandedNow_99 (lv_at hl 10 rfl) ?_
              refine rd_V (As := [.int (mMg f i), .int (mSl f i)]) (rest := [.int z52_8]) (v := some (.int (mNd (f 10 k52) (f 11 k52) (f 12 k52) (mMg f i) (mSl f i)))) S hG (c_X9_needs l G H (B (20 + k52)) (f 10 k52) (f 11 k52) (f 12 k52) (f 13 k52) (f 14 k52) (mP_ob hM (i := k52) (by omega)) (mMg f i) (mSl f i) (by assumption)) gX11_demandedNow_X9_needs rfl ⟨rfl, rfl⟩ nmX9_needs ⟨Nat.le_of_ble_eq_true rfl, Nat.le_of_ble_eq_true rfl⟩ (rd_rcv hG.1 (mP_ob hM (i := k52) (by omega)) rfl) rfl hl.1 rfl (Nat.le_of_ble_eq_true rfl) ⟨Nat.zero_le _, Nat.zero_le _⟩ dX11_demandedNow_101 ?_
              refine W.eq (g2 := F0 mZ 104 ls [.int (mNd (f 10 k52) (f 11 k52) (f 12 k52) (mMg f i) (mSl f i)), .int z52_8]) rfl ?_
              refine rd_max S hl.1 m_max_86 ⟨Nat.le_of_ble_eq_true rfl, Nat.le_of_ble_eq_true rfl⟩ (Nat.le_of_ble_eq_true rfl) ⟨Nat.zero_le _, Nat.zero_le _⟩ dX11_demandedNow_104 ?_
              refine W.eq (g2 := F0 mZ 107 ls [.int (imax z52_8 (mNd (f 10 k52) (f 11 k52) (f 12 k52) (mMg f i) (mSl f i)))]) rfl ?_
              refine lv_topi (fun x11 ex11 => ?_)
              refine lv_istore (lv' := [(8, .int x11), (10, .ref (B (20 + k52))), (9, .int (nI k52)), (0, .ref (B 0)), (1, .int (nI i)), (2, .int d), (3, .int w), (4, .null), (5, .ref (B (40 + i))), (6, .int (mKi f i)), (7, .int (mSl f i))]) hx hb dX11_demandedNow_107 hl (by decide) rfl (fun ls hl => ?_)
              refine lv_iinc (v := nI (k52 + 1)) (lv' := [(9, .int (nI (k52 + 1))), (8, .int x11), (10, .ref (B (20 + k52))), (0, .ref (B 0)), (1, .int (nI i)), (2, .int d), (3, .int w), (4, .null), (5, .ref (B (40 + i))), (6, .int (mKi f i)), (7, .int (mSl f i))]) hx hb dX11_demandedNow_109 hl (k := 2) rfl (nI_inc _) (by decide) rfl (fun ls hl => ?_)
              refine lv_goto (tgt := 52) hx hb dX11_demandedNow_112 (by decide) ?_
              exact ih52 (k52 + 1) (by omega) _ (by subst ex11; subst ez52_8; first | rfl | (simp only [fl, c1, c8, d8, q9p, c10, d10, ne_eq, not_true_eq_false, not_false_eq_true, and_true, true_and, and_false, false_and, or_true, true_or, or_false, false_or, and_self, or_self, decide_eq_true_eq, ↓reduceIte]; done) | (simp only [fl, c1, c8, d8, q9p, c10, d10, ne_eq, not_true_eq_false, not_false_eq_true, and_true, true_and, and_false, false_and, or_true, true_or, or_false, false_or, and_self, or_self, decide_eq_true_eq, ↓reduceIte]; rfl) | (simp [fl, c1, c8, d8, q9p, c10, d10]; done) | (simp only [fl, c1, c8, d8, q9p, c10, d10, ne_eq, not_true_eq_false, not_false_eq_true, and_true, true_and, and_false, false_and, or_true, true_or, or_false, false_or, and_self, or_self, decide_eq_true_eq, ↓reduceIte])) ls (lv_sub hl [0, 1, 3, 4, 5, 6, 7, 8, 9, 10] rfl)
          · have q9p : ¬ pN f g d w k52 = true := pN_f q9
            refine rd_V (As := [.int (nI k52), .int d, .int w, .null]) (rest := []) (v := some (.null)) S hG (c_X11_at_f l G B th mc cp f g H hM k52 d w (by omega) q9) gX11_demandedNow_X11_at rfl ⟨rfl, rfl⟩ nmX11_at ⟨Nat.le_of_ble_eq_true rfl, Nat.le_of_ble_eq_true rfl⟩ (rd_rcv hG.1 (mP_0 hM) rfl) rfl hl.1 rfl (Nat.le_of_ble_eq_true rfl) ⟨Nat.zero_le _, Nat.zero_le _⟩ dX11_demandedNow_71 ?_
            refine W.eq (g2 := F0 mZ 74 ls [.null]) rfl ?_
            refine lv_astoreN (lv' := [(10, .null), (9, .int (nI k52)), (8, .int z52_8), (0, .ref (B 0)), (1, .int (nI i)), (2, .int d), (3, .int w), (4, .null), (5, .ref (B (40 + i))), (6, .int (mKi f i)), (7, .int (mSl f i))]) hx hb dX11_demandedNow_74 hl (by decide) rfl (fun ls hl => ?_)
            refine lv_aloadN hx hb dX11_demandedNow_76 (lv_at hl 0 rfl) ?_
            refine lv_ifnullN (tgt := 109) hx hb dX11_demandedNow_78 (by decide) ?_
            refine lv_iinc (v := nI (k52 + 1)) (lv' := [(9, .int (nI (k52 + 1))), (10, .null), (8, .int z52_8), (0, .ref (B 0)), (1, .int (nI i)), (2, .int d), (3, .int w), (4, .null), (5, .ref (B (40 + i))), (6, .int (mKi f i)), (7, .int (mSl f i))]) hx hb dX11_demandedNow_109 hl (k := 1) rfl (nI_inc _) (by decide) rfl (fun ls hl => ?_)
            refine lv_goto (tgt := 52) hx hb dX11_demandedNow_112 (by decide) ?_
            exact ih52 (k52 + 1) (by omega) _ (by subst ez52_8; first | rfl | (simp only [fl, c1, c8, d8, q9p, ne_eq, not_true_eq_false, not_false_eq_true, and_true, true_and, and_false, false_and, or_true, true_or, or_false, false_or, and_self, or_self, decide_eq_true_eq, ↓reduceIte]; done) | (simp only [fl, c1, c8, d8, q9p, ne_eq, not_true_eq_false, not_false_eq_true, and_true, true_and, and_false, false_and, or_true, true_or, or_false, false_or, and_self, or_self, decide_eq_true_eq, ↓reduceIte]; rfl) | (simp [fl, c1, c8, d8, q9p]; done) | (simp only [fl, c1, c8, d8, q9p, ne_eq, not_true_eq_false, not_false_eq_true, and_true, true_and, and_false, false_and, or_true, true_or, or_false, false_or, and_self, or_self, decide_eq_true_eq, ↓reduceIte])) ls (lv_sub hl [0, 2, 3, 4, 5, 6, 7, 8, 9, 10] rfl)
    exact loop52 (g 1 + 1) 0 (by omega) _ (by first | rfl | first | rfl | (simp only [fl, c1, ne_eq, not_true_eq_false, not_false_eq_true, and_true, true_and, and_false, false_and, or_true, true_or, or_false, false_or, and_self, or_self, decide_eq_true_eq, ↓reduceIte]; done) | (simp only [fl, c1, ne_eq, not_true_eq_false, not_false_eq_true, and_true, true_and, and_false, false_and, or_true, true_or, or_false, false_or, and_self, or_self, decide_eq_true_eq, ↓reduceIte]; rfl) | (simp [fl, c1]; done) | (simp only [fl, c1, ne_eq, not_true_eq_false, not_false_eq_true, and_true, true_and, and_false, false_and, or_true, true_or, or_false, false_or, and_self, or_self, decide_eq_true_eq, ↓reduceIte])) ls (lv_sub hl [0, 1, 5, 6, 7, 8, 9, 4, 3, 2] rfl)
  · refine lv_aload hx hb dX11_demandedNow_30 (lv_at hl 1 rfl) ?_
    refine rd_get (own := RX11) (x := .int (f 18 i)) S hG.1 iX10 (mP_pr hM (i := i) (by omega)) 1 rfl (by decide) w8 rfl dX11_demandedNow_32 ?_
    refine lv_goto (tgt := 39) hx hb dX11_demandedNow_35 (by decide) ?_
    refine W.eq (g2 := F0 mZ 39 ls [.int (mSl f i)]) (congrArg (fun z => F0 mZ 39 ls [Value.int z]) (if_pos c1).symm) ?_
    refine lv_istore (lv' := [(7, .int (mSl f i)), (6, .int (mKi f i)), (5, .ref (B (40 + i))), (0, .ref (B 0)), (1, .int (nI i)), (2, .int d), (3, .int w), (4, .null)]) hx hb dX11_demandedNow_39 hl (by decide) rfl (fun ls hl => ?_)
    refine rd_gets (own := RX11) (x := .ref (G.2.2.2 1)) S hHs hG.2.2.2.2.1.2.1 w4 dX11_demandedNow_41 ?_
    refine lv_iload hx hb dX11_demandedNow_44 (lv_at hl 1 rfl) ?_
    refine rd_tald S hG.2.2.2.2.2.2.1 (vp_ki hI (by omega)) dX11_demandedNow_46 ?_
    refine W.eq (g2 := F0 mZ 47 ls [.int (bases (cnt (mKi f i)))]) rfl ?_
    refine lv_istore (lv' := [(8, .int (bases (cnt (mKi f i)))), (7, .int (mSl f i)), (6, .int (mKi f i)), (5, .ref (B (40 + i))), (0, .ref (B 0)), (1, .int (nI i)), (2, .int d), (3, .int w), (4, .null)]) hx hb dX11_demandedNow_47 hl (by decide) rfl (fun ls hl => ?_)
    refine lv_iconst (v := 0) hx hb dX11_demandedNow_49 (by decide) ?_
    refine lv_istore (lv' := [(9, .int 0), (8, .int (bases (cnt (mKi f i)))), (7, .int (mSl f i)), (6, .int (mKi f i)), (5, .ref (B (40 + i))), (0, .ref (B 0)), (1, .int (nI i)), (2, .int d), (3, .int w), (4, .null)]) hx hb dX11_demandedNow_50 hl (by decide) rfl (fun ls hl => ?_)
    have loop52 : ∀ (n52 k52 : Nat), k52 + n52 = g 1 + 1 → ∀ (z52_8 : Int32), z52_8 = fl k52 (fun j h => if pN f g d w j = true ∧ ¬ f 10 j < 0 then imax h (mNd (f 10 j) (f 11 j) (f 12 j) (mMg f i) (mSl f i)) else h) (bases (cnt (mKi f i))) → ∀ (ls : Array Slot), lv_has ls 12 [(9, .int (nI k52)), (8, .int z52_8), (0, .ref (B 0)), (1, .int (nI i)), (2, .int d), (3, .int w), (4, .null), (5, .ref (B (40 + i))), (6, .int (mKi f i)), (7, .int (mSl f i))] → W pZ l eZ ({ frames := 4, cells := 0, slots := 0, locals := 89 } : Room) sZ mZ ([.ref (B 0), .int (nI i), .int d, .int w, .null] : List Value).toArray bZ meZ cZ H [] 0 0 (rd_Q bZ H [.ref (B 0), .int (nI i), .int d, .int w, .null] sZ (some (.int (dmd f f i (g 1 + 1) (pN f g d w))))) (F0 mZ 52 ls []) := by
      intro n52
      induction n52 with
      | zero =>
        intro k52 hk52 z52_8 ez52_8 ls hl
        obtain rfl : k52 = g 1 + 1 := by omega
        refine lv_iload hx hb dX11_demandedNow_52 (lv_at hl 0 rfl) ?_
        refine lv_aload_n hx hb dX11_demandedNow_54 rfl (lv_at hl 2 rfl) ?_
        refine rd_get (own := RX11) (x := .ref (B 5)) S hG.1 iX11 (mP_0 hM) 4 rfl (by decide) w5 rfl dX11_demandedNow_55 ?_
        refine rd_V (As := []) (rest := [.int (nI (g 1 + 1))]) (v := some (.int (nI (g 1)))) S hG (c_Jx4a65c_size_8abf5 l G H (B 5) (eA G B cp 5 8) (mc 5) (nI (g 1)) (mP_5 hM)) gX11_demandedNow_Jx4a65c_size_8abf5 rfl ⟨rfl, rfl⟩ nmJx4a65c_size_8abf5 ⟨Nat.le_of_ble_eq_true rfl, Nat.le_of_ble_eq_true rfl⟩ (rd_rcv hG.1 (mP_5 hM) rfl) rfl hl.1 rfl (Nat.le_of_ble_eq_true rfl) ⟨Nat.zero_le _, Nat.zero_le _⟩ dX11_demandedNow_58 ?_
        refine W.eq (g2 := F0 mZ 61 ls [.int (nI (g 1)), .int (nI (g 1 + 1))]) rfl ?_
        refine lv_icmp_gt (tgt := 115) hx hb dX11_demandedNow_61 (by decide) (fun c12 => ?_) (fun c12 => ?_)
        · have d12 := Int32.not_le.mpr c12
          refine lv_iconst (v := 0) hx hb dX11_demandedNow_115 (by decide) ?_
          refine lv_istore (lv' := [(9, .int 0), (8, .int z52_8), (0, .ref (B 0)), (1, .int (nI i)), (2, .int d), (3, .int w), (4, .null), (5, .ref (B (40 + i))), (6, .int (mKi f i)), (7, .int (mSl f i))]) hx hb dX11_demandedNow_116 hl (by decide) rfl (fun ls hl => ?_)
          have ez_ : z52_8 = dmH f f i (g 1 + 1) (pN f g d w) := ez52_8
          rw [ez_] at hl
          refine lv_iconst (v := 0) hx hb dX11_demandedNow_118 (by decide) ?_
          refine lv_istore (lv' := [(10, .int 0), (9, .int 0), (8, .int (dmH f f i (g 1 + 1) (pN f g d w))), (0, .ref (B 0)), (1, .int (nI i)), (2, .int d), (3, .int w), (4, .null), (5, .ref (B (40 + i))), (6, .int (mKi f i)), (7, .int (mSl f i))]) hx hb dX11_demandedNow_119 hl (by decide) rfl (fun ls hl => ?_)
          have loop121 : ∀ (n121 k121 : Nat), k121 + n121 = g 1 + 1 → ∀ (z121_9 : Int32), z121_9 = fl k121 (fun j a9 => if pN f g d w j = true ∧ f 10 j < 0 then imax a9 (mAb (f 12 j) (f 10 j) (dmH f f i (g 1 + 1) (pN f g d w))) else a9) 0 → ∀ (ls : Array Slot), lv_has ls 12 [(10, .int (nI k121)), (9, .int z121_9), (0, .ref (B 0)), (1, .int (nI i)), (2, .int d), (3, .int w), (4, .null), (5, .ref (B (40 + i))), (6, .int (mKi f i)), (7, .int (mSl f i)), (8, .int (dmH f f i (g 1 + 1) (pN f g d w)))] → W pZ l eZ ({ frames := 4, cells := 0, slots := 0, locals := 89 } : Room) sZ mZ ([.ref (B 0), .int (nI i), .int d, .int w, .null] : List Value).toArray bZ meZ cZ H [] 0 0 (rd_Q bZ H [.ref (B 0), .int (nI i), .int d, .int w, .null] sZ (some (.int (dmd f f i (g 1 + 1) (pN f g d w))))) (F0 mZ 121 ls []) := by
            intro n121
            induction n121 with
            | zero =>
              intro k121 hk121 z121_9 ez121_9 ls hl
              obtain rfl : k121 = g 1 + 1 := by omega
              refine lv_iload hx hb dX11_demandedNow_121 (lv_at hl 0 rfl) ?_
              refine lv_aload_n hx hb dX11_demandedNow_123 rfl (lv_at hl 2 rfl) ?_
              refine rd_get (own := RX11) (x := .ref (B 5)) S hG.1 iX11 (mP_0 hM) 4 rfl (by decide) w5 rfl dX11_demandedNow_124 ?_
              refine rd_V (As := []) (rest := [.int (nI (g 1 + 1))]) (v := some (.int (nI (g 1)))) S hG (c_Jx4a65c_size_8abf5 l G H (B 5) (eA G B cp 5 8) (mc 5) (nI (g 1)) (mP_5 hM)) gX11_demandedNow_Jx4a65c_size_8abf5 rfl ⟨rfl, rfl⟩ nmJx4a65c_size_8abf5 ⟨Nat.le_of_ble_eq_true rfl, Nat.le_of_ble_eq_true rfl⟩ (rd_rcv hG.1 (mP_5 hM) rfl) rfl hl.1 rfl (Nat.le_of_ble_eq_true rfl) ⟨Nat.zero_le _, Nat.zero_le _⟩ dX11_demandedNow_127 ?_
              refine W.eq (g2 := F0 mZ 130 ls [.int (nI (g 1)), .int (nI (g 1 + 1))]) rfl ?_
              refine lv_icmp_gt (tgt := 178) hx hb dX11_demandedNow_130 (by decide) (fun c13 => ?_) (fun c13 => ?_)
              · have d13 := Int32.not_le.mpr c13
                refine lv_iload hx hb dX11_demandedNow_178 (lv_at hl 10 rfl) ?_
                refine lv_iload hx hb dX11_demandedNow_180 (lv_at hl 1 rfl) ?_
                refine lv_iadd hx hb dX11_demandedNow_182 ?_
                refine lv_bipush (v := 9) hx hb dX11_demandedNow_183 (by decide) ?_
                refine lv_iadd hx hb dX11_demandedNow_185 ?_
                refine lv_bipush (v := 10) hx hb dX11_demandedNow_186 (by decide) ?_
                refine lv_idiv hx hb dX11_demandedNow_188 (by decide) ?_
                refine lv_bipush (v := 10) hx hb dX11_demandedNow_189 (by decide) ?_
                refine lv_imul hx hb dX11_demandedNow_191 ?_
                exact rd_iret S hr hlk dX11_demandedNow_192 (congrArg (fun z => some (Value.int z)) (by subst ez121_9; rfl))
              · first | exact absurd c13 c12 | exact absurd c12 c13 | exact absurd (Int32.not_lt.mp c13) (Int32.not_le.mpr c12) | exact absurd (Int32.not_lt.mpr c13) (by simp only [Int32.not_lt]; exact c12)
            | succ n121 ih121 =>
              intro k121 hk121 z121_9 ez121_9 ls hl
              refine lv_iload hx hb dX11_demandedNow_121 (lv_at hl 0 rfl) ?_
              refine lv_aload_n hx hb dX11_demandedNow_123 rfl (lv_at hl 2 rfl) ?_
              refine rd_get (own := RX11) (x := .ref (B 5)) S hG.1 iX11 (mP_0 hM) 4 rfl (by decide) w5 rfl dX11_demandedNow_124 ?_
              refine rd_V (As := []) (rest := [.int (nI k121)]) (v := some (.int (nI (g 1)))) S hG (c_Jx4a65c_size_8abf5 l G H (B 5) (eA G B cp 5 8) (mc 5) (nI (g 1)) (mP_5 hM)) gX11_demandedNow_Jx4a65c_size_8abf5 rfl ⟨rfl, rfl⟩ nmJx4a65c_size_8abf5 ⟨Nat.le_of_ble_eq_true rfl, Nat.le_of_ble_eq_true rfl⟩ (rd_rcv hG.1 (mP_5 hM) rfl) rfl hl.1 rfl (Nat.le_of_ble_eq_true rfl) ⟨Nat.zero_le _, Nat.zero_le _⟩ dX11_demandedNow_127 ?_
              refine W.eq (g2 := F0 mZ 130 ls [.int (nI (g 1)), .int (nI k121)]) rfl ?_
              refine lv_icmp_gt (tgt := 178) hx hb dX11_demandedNow_130 (by decide) (fun c14 => ?_) (fun c14 => ?_)
              · exact absurd c14 (nI_nlt (by omega) (by omega))
              · have d14 := Int32.not_lt.mp c14
                refine lv_aload_n hx hb dX11_demandedNow_133 rfl (lv_at hl 2 rfl) ?_
                refine lv_iload hx hb dX11_demandedNow_134 (lv_at hl 0 rfl) ?_
                refine lv_iload_n hx hb dX11_demandedNow_136 rfl (lv_at hl 4 rfl) ?_
                refine lv_iload_n hx hb dX11_demandedNow_137 rfl (lv_at hl 5 rfl) ?_
                refine lv_aloadN hx hb dX11_demandedNow_138 (lv_at hl 6 rfl) ?_
                rcases Classical.em (atq f g k121 d w) with q15 | q15
                · have q15p : pN f g d w k121 = true := pN_t q15
                  have q15k := q15.1
                  refine rd_V (As := [.int (nI k121), .int d, .int w, .null]) (rest := []) (v := some (.ref (B (20 + k121)))) S hG (c_X11_at_t l G B th mc cp f g H hM k121 d w q15) gX11_demandedNow_X11_at rfl ⟨rfl, rfl⟩ nmX11_at ⟨Nat.le_of_ble_eq_true rfl, Nat.le_of_ble_eq_true rfl⟩ (rd_rcv hG.1 (mP_0 hM) rfl) rfl hl.1 rfl (Nat.le_of_ble_eq_true rfl) ⟨Nat.zero_le _, Nat.zero_le _⟩ dX11_demandedNow_140 ?_
                  refine W.eq (g2 := F0 mZ 143 ls [.ref (B (20 + k121))]) rfl ?_
                  refine lv_astore (lv' := [(11, .ref (B (20 + k121))), (10, .int (nI k121)), (9, .int z121_9), (0, .ref (B 0)), (1, .int (nI i)), (2, .int d), (3, .int w), (4, .null), (5, .ref (B (40 + i))), (6, .int (mKi f i)), (7, .int (mSl f i)), (8, .int (dmH f f i (g 1 + 1) (pN f g d w)))]) hx hb dX11_demandedNow_143 hl (by decide) rfl (fun ls hl => ?_)
                  refine lv_aload hx hb dX11_demandedNow_145 (lv_at hl 0 rfl) ?_
                  refine lv_ifnull hx hb dX11_demandedNow_147 ?_
                  refine lv_aload hx hb dX11_demandedNow_150 (lv_at hl 0 rfl) ?_
                  refine rd_get (own := RX11) (x := .int (f 10 k121)) S hG.1 iX9 (mP_ob hM (i := k121) (by omega)) 0 rfl (by decide) w6 rfl dX11_demandedNow_152 ?_
                  refine lv_if_ge (tgt := 172) hx hb dX11_demandedNow_155 (by decide) (fun c16 => ?_) (fun c16 => ?_)
                  · have d16 := Int32.not_lt.mpr c16
                    refine lv_iinc (v := nI (k121 + 1)) (lv' := [(10, .int (nI (k121 + 1))), (11, .ref (B (20 + k121))), (9, .int z121_9), (0, .ref (B 0)), (1, .int (nI i)), (2, .int d), (3, .int w), (4, .null), (5, .ref (B (40 + i))), (6, .int (mKi f i)), (7, .int (mSl f i)), (8, .int (dmH f f i (g 1 + 1) (pN f g d w)))]) hx hb dX11_demandedNow_172 hl (k := 1) rfl (nI_inc _) (by decide) rfl (fun ls hl => ?_)
                    refine lv_goto (tgt := 121) hx hb dX11_demandedNow_175 (by decide) ?_
                    exact ih121 (k121 + 1) (by omega) _ (by subst ez121_9; first | rfl | (simp only [fl, c1, c12, d12, c14, d14, q15p, c16, d16, ne_eq, not_true_eq_false, not_false_eq_true, and_true, true_and, and_false, false_and, or_true, true_or, or_false, false_or, and_self, or_self, decide_eq_true_eq, ↓reduceIte]; done) | (simp only [fl, c1, c12, d12, c14, d14, q15p, c16, d16, ne_eq, not_true_eq_false, not_false_eq_true, and_true, true_and, and_false, false_and, or_true, true_or, or_false, false_or, and_self, or_self, decide_eq_true_eq, ↓reduceIte]; rfl) | (simp [fl, c1, c12, d12, c14, d14, q15p, c16, d16]; done) | (simp only [fl, c1, c12, d12, c14, d14, q15p, c16, d16, ne_eq, not_true_eq_false, not_false_eq_true, and_true, true_and, and_false, false_and, or_true, true_or, or_false, false_or, and_self, or_self, decide_eq_true_eq, ↓reduceIte])) ls (lv_sub hl [0, 2, 3, 4, 5, 6, 7, 8, 9, 10, 11] rfl)
                  · have d16 := Int32.not_le.mp c16
                    refine lv_iload hx hb dX11_demandedNow_158 (lv_at hl 2 rfl) ?_
                    refine lv_aload hx hb dX11_demandedNow_160 (lv_at hl 0 rfl) ?_
                    refine lv_iload hx hb dX11_demandedNow_162 (lv_at hl 11 rfl) ?_
                    refine rd_V (As := [.int (dmH f f i (g 1 + 1) (pN f g d w))]) (rest := [.int z121_9]) (v := some (.int (mAb (f 12 k121) (f 10 k121) (dmH f f i (g 1 + 1) (pN f g d w))))) S hG (c_X9_above l G H (B (20 + k121)) (f 10 k121) (f 11 k121) (f 12 k121) (f 13 k121) (f 14 k121) (mP_ob hM (i := k121) (by omega)) (dmH f f i (g 1 + 1) (pN f g d w))) gX11_demandedNow_X9_above rfl ⟨rfl, rfl⟩ nmX9_above ⟨Nat.le_of_ble_eq_true rfl, Nat.le_of_ble_eq_true rfl⟩ (rd_rcv hG.1 (mP_ob hM (i := k121) (by omega)) rfl) rfl hl.1 rfl (Nat.le_of_ble_eq_true rfl) ⟨Nat.zero_le _, Nat.zero_le _⟩ dX11_demandedNow_164 ?_
                    refine W.eq (g2 := F0 mZ 167 ls [.int (mAb (f 12 k121) (f 10 k121) (dmH f f i (g 1 + 1) (pN f g d w))), .int z121_9]) rfl ?_
                    refine rd_max S hl.1 m_max_86 ⟨Nat.le_of_ble_eq_true rfl, Nat.le_of_ble_eq_true rfl⟩ (Nat.le_of_ble_eq_true rfl) ⟨Nat.zero_le _, Nat.zero_le _⟩ dX11_demandedNow_167 ?_
                    refine W.eq (g2 := F0 mZ 170 ls [.int (imax z121_9 (mAb (f 12 k121) (f 10 k121) (dmH f f i (g 1 + 1) (pN f g d w))))]) rfl ?_
                    refine lv_topi (fun x17 ex17 => ?_)
                    refine lv_istore (lv' := [(9, .int x17), (11, .ref (B (20 + k121))), (10, .int (nI k121)), (0, .ref (B 0)), (1, .int (nI i)), (2, .int d), (3, .int w), (4, .null), (5, .ref (B (40 + i))), (6, .int (mKi f i)), (7, .int (mSl f i)), (8, .int (dmH f f i (g 1 + 1) (pN f g d w)))]) hx hb dX11_demandedNow_170 hl (by decide) rfl (fun ls hl => ?_)
                    refine lv_iinc (v := nI (k121 + 1)) (lv' := [(10, .int (nI (k121 + 1))), (9, .int x17), (11, .ref (B (20 + k121))), (0, .ref (B 0)), (1, .int (nI i)), (2, .int d), (3, .int w), (4, .null), (5, .ref (B (40 + i))), (6, .int (mKi f i)), (7, .int (mSl f i)), (8, .int (dmH f f i (g 1 + 1) (pN f g d w)))]) hx hb dX11_demandedNow_172 hl (k := 2) rfl (nI_inc _) (by decide) rfl (fun ls hl => ?_)
                    refine lv_goto (tgt := 121) hx hb dX11_demandedNow_175 (by decide) ?_
                    exact ih121 (k121 + 1) (by omega) _ (by subst ex17; subst ez121_9; first | rfl | (simp only [fl, c1, c12, d12, c14, d14, q15p, c16, d16, ne_eq, not_true_eq_false, not_false_eq_true, and_true, true_and, and_false, false_and, or_true, true_or, or_false, false_or, and_self, or_self, decide_eq_true_eq, ↓reduceIte]; done) | (simp only [fl, c1, c12, d12, c14, d14, q15p, c16, d16, ne_eq, not_true_eq_false, not_false_eq_true, and_true, true_and, and_false, false_and, or_true, true_or, or_false, false_or, and_self, or_self, decide_eq_true_eq, ↓reduceIte]; rfl) | (simp [fl, c1, c12, d12, c14, d14, q15p, c16, d16]; done) | (simp only [fl, c1, c12, d12, c14, d14, q15p, c16, d16, ne_eq, not_true_eq_false, not_false_eq_true, and_true, true_and, and_false, false_and, or_true, true_or, or_false, false_or, and_self, or_self, decide_eq_true_eq, ↓reduceIte])) ls (lv_sub hl [0, 1, 3, 4, 5, 6, 7, 8, 9, 10, 11] rfl)
                · have q15p : ¬ pN f g d w k121 = true := pN_f q15
                  refine rd_V (As := [.int (nI k121), .int d, .int w, .null]) (rest := []) (v := some (.null)) S hG (c_X11_at_f l G B th mc cp f g H hM k121 d w (by omega) q15) gX11_demandedNow_X11_at rfl ⟨rfl, rfl⟩ nmX11_at ⟨Nat.le_of_ble_eq_true rfl, Nat.le_of_ble_eq_true rfl⟩ (rd_rcv hG.1 (mP_0 hM) rfl) rfl hl.1 rfl (Nat.le_of_ble_eq_true rfl) ⟨Nat.zero_le _, Nat.zero_le _⟩ dX11_demandedNow_140 ?_
                  refine W.eq (g2 := F0 mZ 143 ls [.null]) rfl ?_
                  refine lv_astoreN (lv' := [(11, .null), (10, .int (nI k121)), (9, .int z121_9), (0, .ref (B 0)), (1, .int (nI i)), (2, .int d), (3, .int w), (4, .null), (5, .ref (B (40 + i))), (6, .int (mKi f i)), (7, .int (mSl f i)), (8, .int (dmH f f i (g 1 + 1) (pN f g d w)))]) hx hb dX11_demandedNow_143 hl (by decide) rfl (fun ls hl => ?_)
                  refine lv_aloadN hx hb dX11_demandedNow_145 (lv_at hl 0 rfl) ?_
                  refine lv_ifnullN (tgt := 172) hx hb dX11_demandedNow_147 (by decide) ?_
                  refine lv_iinc (v := nI (k121 + 1)) (lv' := [(10, .int (nI (k121 + 1))), (11, .null), (9, .int z121_9), (0, .ref (B 0)), (1, .int (nI i)), (2, .int d), (3, .int w), (4, .null), (5, .ref (B (40 + i))), (6, .int (mKi f i)), (7, .int (mSl f i)), (8, .int (dmH f f i (g 1 + 1) (pN f g d w)))]) hx hb dX11_demandedNow_172 hl (k := 1) rfl (nI_inc _) (by decide) rfl (fun ls hl => ?_)
                  refine lv_goto (tgt := 121) hx hb dX11_demandedNow_175 (by decide) ?_
                  exact ih121 (k121 + 1) (by omega) _ (by subst ez121_9; first | rfl | (simp only [fl, c1, c12, d12, c14, d14, q15p, ne_eq, not_true_eq_false, not_false_eq_true, and_true, true_and, and_false, false_and, or_true, true_or, or_false, false_or, and_self, or_self, decide_eq_true_eq, ↓reduceIte]; done) | (simp only [fl, c1, c12, d12, c14, d14, q15p, ne_eq, not_true_eq_false, not_false_eq_true, and_true, true_and, and_false, false_and, or_true, true_or, or_false, false_or, and_self, or_self, decide_eq_true_eq, ↓reduceIte]; rfl) | (simp [fl, c1, c12, d12, c14, d14, q15p]; done) | (simp only [fl, c1, c12, d12, c14, d14, q15p, ne_eq, not_true_eq_false, not_false_eq_true, and_true, true_and, and_false, false_and, or_true, true_or, or_false, false_or, and_self, or_self, decide_eq_true_eq, ↓reduceIte])) ls (lv_sub hl [0, 2, 3, 4, 5, 6, 7, 8, 9, 10, 11] rfl)
          exact loop121 (g 1 + 1) 0 (by omega) _ (by first | rfl | first | rfl | (simp only [fl, c1, c12, d12, ne_eq, not_true_eq_false, not_false_eq_true, and_true, true_and, and_false, false_and, or_true, true_or, or_false, false_or, and_self, or_self, decide_eq_true_eq, ↓reduceIte]; done) | (simp only [fl, c1, c12, d12, ne_eq, not_true_eq_false, not_false_eq_true, and_true, true_and, and_false, false_and, or_true, true_or, or_false, false_or, and_self, or_self, decide_eq_true_eq, ↓reduceIte]; rfl) | (simp [fl, c1, c12, d12]; done) | (simp only [fl, c1, c12, d12, ne_eq, not_true_eq_false, not_false_eq_true, and_true, true_and, and_false, false_and, or_true, true_or, or_false, false_or, and_self, or_self, decide_eq_true_eq, ↓reduceIte])) ls (lv_sub hl [0, 1, 3, 4, 5, 6, 7, 8, 9, 10, 2] rfl)
        · exact absurd (nI_lt (by omega) (by omega)) c12
      | succ n52 ih52 =>
        intro k52 hk52 z52_8 ez52_8 ls hl
        refine lv_iload hx hb dX11_demandedNow_52 (lv_at hl 0 rfl) ?_
        refine lv_aload_n hx hb dX11_demandedNow_54 rfl (lv_at hl 2 rfl) ?_
        refine rd_get (own := RX11) (x := .ref (B 5)) S hG.1 iX11 (mP_0 hM) 4 rfl (by decide) w5 rfl dX11_demandedNow_55 ?_
        refine rd_V (As := []) (rest := [.int (nI k52)]) (v := some (.int (nI (g 1)))) S hG (c_Jx4a65c_size_8abf5 l G H (B 5) (eA G B cp 5 8) (mc 5) (nI (g 1)) (mP_5 hM)) gX11_demandedNow_Jx4a65c_size_8abf5 rfl ⟨rfl, rfl⟩ nmJx4a65c_size_8abf5 ⟨Nat.le_of_ble_eq_true rfl, Nat.le_of_ble_eq_true rfl⟩ (rd_rcv hG.1 (mP_5 hM) rfl) rfl hl.1 rfl (Nat.le_of_ble_eq_true rfl) ⟨Nat.zero_le _, Nat.zero_le _⟩ dX11_demandedNow_58 ?_
        refine W.eq (g2 := F0 mZ 61 ls [.int (nI (g 1)), .int (nI k52)]) rfl ?_
        refine lv_icmp_gt (tgt := 115) hx hb dX11_demandedNow_61 (by decide) (fun c18 => ?_) (fun c18 => ?_)
        · exact absurd c18 (nI_nlt (by omega) (by omega))
        · have d18 := Int32.not_lt.mp c18
          refine lv_aload_n hx hb dX11_demandedNow_64 rfl (lv_at hl 2 rfl) ?_
          refine lv_iload hx hb dX11_demandedNow_65 (lv_at hl 0 rfl) ?_
          refine lv_iload_n hx hb dX11_demandedNow_67 rfl (lv_at hl 4 rfl) ?_
          refine lv_iload_n hx hb dX11_demandedNow_68 rfl (lv_at hl 5 rfl) ?_
          refine lv_aloadN hx hb dX11_demandedNow_69 (lv_at hl 6 rfl) ?_
          rcases Classical.em (atq f g k52 d w) with q19 | q19
          · have q19p : pN f g d w k52 = true := pN_t q19
            have q19k := q19.1
            refine rd_V (As := [.int (nI k52), .int d, .int w, .null]) (rest := []) (v := some (.ref (B (20 + k52)))) S hG (c_X11_at_t l G B th mc cp f g H hM k52 d w q19) gX11_demandedNow_X11_at rfl ⟨rfl, rfl⟩ nmX11_at ⟨Nat.le_of_ble_eq_true rfl, Nat.le_of_ble_eq_true rfl⟩ (rd_rcv hG.1 (mP_0 hM) rfl) rfl hl.1 rfl (Nat.le_of_ble_eq_true rfl) ⟨Nat.zero_le _, Nat.zero_le _⟩ dX11_demandedNow_71 ?_
            refine W.eq (g2 := F0 mZ 74 ls [.ref (B (20 + k52))]) rfl ?_
            refine lv_astore (lv' := [(10, .ref (B (20 + k52))), (9, .int (nI k52)), (8, .int z52_8), (0, .ref (B 0)), (1, .int (nI i)), (2, .int d), (3, .int w), (4, .null), (5, .ref (B (40 + i))), (6, .int (mKi f i)), (7, .int (mSl f i))]) hx hb dX11_demandedNow_74 hl (by decide) rfl (fun ls hl => ?_)
            refine lv_aload hx hb dX11_demandedNow_76 (lv_at hl 0 rfl) ?_
            refine lv_ifnull hx hb dX11_demandedNow_78 ?_
            refine lv_aload hx hb dX11_demandedNow_81 (lv_at hl 0 rfl) ?_
            refine rd_get (own := RX11) (x := .int (f 10 k52)) S hG.1 iX9 (mP_ob hM (i := k52) (by omega)) 0 rfl (by decide) w6 rfl dX11_demandedNow_83 ?_
            refine lv_if_lt (tgt := 109) hx hb dX11_demandedNow_86 (by decide) (fun c20 => ?_) (fun c20 => ?_)
            · have d20 := Int32.not_le.mpr c20
              refine lv_iinc (v := nI (k52 + 1)) (lv' := [(9, .int (nI (k52 + 1))), (10, .ref (B (20 + k52))), (8, .int z52_8), (0, .ref (B 0)), (1, .int (nI i)), (2, .int d), (3, .int w), (4, .null), (5, .ref (B (40 + i))), (6, .int (mKi f i)), (7, .int (mSl f i))]) hx hb dX11_demandedNow_109 hl (k := 1) rfl (nI_inc _) (by decide) rfl (fun ls hl => ?_)
              refine lv_goto (tgt := 52) hx hb dX11_demandedNow_112 (by decide) ?_
              exact ih52 (k52 + 1) (by omega) _ (by subst ez52_8; first | rfl | (simp only [fl, c1, c18, d18, q19p, c20, d20, ne_eq, not_true_eq_false, not_false_eq_true, and_true, true_and, and_false, false_and, or_true, true_or, or_false, false_or, and_self, or_self, decide_eq_true_eq, ↓reduceIte]; done) | (simp only [fl, c1, c18, d18, q19p, c20, d20, ne_eq, not_true_eq_false, not_false_eq_true, and_true, true_and, and_false, false_and, or_true, true_or, or_false, false_or, and_self, or_self, decide_eq_true_eq, ↓reduceIte]; rfl) | (simp [fl, c1, c18, d18, q19p, c20, d20]; done) | (simp only [fl, c1, c18, d18, q19p, c20, d20, ne_eq, not_true_eq_false, not_false_eq_true, and_true, true_and, and_false, false_and, or_true, true_or, or_false, false_or, and_self, or_self, decide_eq_true_eq, ↓reduceIte])) ls (lv_sub hl [0, 2, 3, 4, 5, 6, 7, 8, 9, 10] rfl)
            · have d20 := Int32.not_lt.mp c20
              refine lv_iload hx hb dX11_demandedNow_89 (lv_at hl 2 rfl) ?_
              refine lv_aload hx hb dX11_demandedNow_91 (lv_at hl 0 rfl) ?_
              refine rd_gets (own := RX11) (x := .ref (G.2.2.2 2)) S hHs hG.2.2.2.2.1.2.2 w7 dX11_demandedNow_93 ?_
              refine lv_iload hx hb dX11_demandedNow_96 (lv_at hl 9 rfl) ?_
              refine rd_tald S hG.2.2.2.2.2.2.2 (vp_ki hI (by omega)) dX11_demandedNow_98 ?_
              refine W.eq (g2 := F0 mZ 99 ls [.int (mMg f i), .ref (B (20 + k52)), .int z52_8]) rfl ?_
              refine lv_iload hx hb dX11_demandedNow_99 (lv_at hl 10 rfl) ?_
              refine rd_V (As := [.int (mMg f i), .int (mSl f i)]) (rest := [.int z52_8]) (v := some (.int (mNd (f 10 k52) (f 11 k52) (f 12 k52) (mMg f i) (mSl f i)))) S hG (c_X9_needs l G H (B (20 + k52)) (f 10 k52) (f 11 k52) (f 12 k52) (f 13 k52) (f 14 k52) (mP_ob hM (i := k52) (by omega)) (mMg f i) (mSl f i) (by assumption)) gX11_demandedNow_X9_needs rfl ⟨rfl, rfl⟩ nmX9_needs ⟨Nat.le_of_ble_eq_true rfl, Nat.le_of_ble_eq_true rfl⟩ (rd_rcv hG.1 (mP_ob hM (i := k52) (by omega)) rfl) rfl hl.1 rfl (Nat.le_of_ble_eq_true rfl) ⟨Nat.zero_le _, Nat.zero_le _⟩ dX11_demandedNow_101 ?_
              refine W.eq (g2 := F0 mZ 104 ls [.int (mNd (f 10 k52) (f 11 k52) (f 12 k52) (mMg f i) (mSl f i)), .int z52_8]) rfl ?_
              refine rd_max S hl.1 m_max_86 ⟨Nat.le_of_ble_eq_true rfl, Nat.le_of_ble_eq_true rfl⟩ (Nat.le_of_ble_eq_true rfl) ⟨Nat.zero_le _, Nat.zero_le _⟩ dX11_demandedNow_104 ?_
              refine W.eq (g2 := F0 mZ 107 ls [.int (imax z52_8 (mNd (f 10 k52) (f 11 k52) (f 12 k52) (mMg f i) (mSl f i)))]) rfl ?_
              refine lv_topi (fun x21 ex21 => ?_)
              refine lv_istore (lv' := [(8, .int x21), (10, .ref (B (20 + k52))), (9, .int (nI k52)), (0, .ref (B 0)), (1, .int (nI i)), (2, .int d), (3, .int w), (4, .null), (5, .ref (B (40 + i))), (6, .int (mKi f i)), (7, .int (mSl f i))]) hx hb dX11_demandedNow_107 hl (by decide) rfl (fun ls hl => ?_)
              refine lv_iinc (v := nI (k52 + 1)) (lv' := [(9, .int (nI (k52 + 1))), (8, .int x21), (10, .ref (B (20 + k52))), (0, .ref (B 0)), (1, .int (nI i)), (2, .int d), (3, .int w), (4, .null), (5, .ref (B (40 + i))), (6, .int (mKi f i)), (7, .int (mSl f i))]) hx hb dX11_demandedNow_109 hl (k := 2) rfl (nI_inc _) (by decide) rfl (fun ls hl => ?_)
              refine lv_goto (tgt := 52) hx hb dX11_demandedNow_112 (by decide) ?_
              exact ih52 (k52 + 1) (by omega) _ (by subst ex21; subst ez52_8; first | rfl | (simp only [fl, c1, c18, d18, q19p, c20, d20, ne_eq, not_true_eq_false, not_false_eq_true, and_true, true_and, and_false, false_and, or_true, true_or, or_false, false_or, and_self, or_self, decide_eq_true_eq, ↓reduceIte]; done) | (simp only [fl, c1, c18, d18, q19p, c20, d20, ne_eq, not_true_eq_false, not_false_eq_true, and_true, true_and, and_false, false_and, or_true, true_or, or_false, false_or, and_self, or_self, decide_eq_true_eq, ↓reduceIte]; rfl) | (simp [fl, c1, c18, d18, q19p, c20, d20]; done) | (simp only [fl, c1, c18, d18, q19p, c20, d20, ne_eq, not_true_eq_false, not_false_eq_true, and_true, true_and, and_false, false_and, or_true, true_or, or_false, false_or, and_self, or_self, decide_eq_true_eq, ↓reduceIte])) ls (lv_sub hl [0, 1, 3, 4, 5, 6, 7, 8, 9, 10] rfl)
          · have q19p : ¬ pN f g d w k52 = true := pN_f q19
            refine rd_V (As := [.int (nI k52), .int d, .int w, .null]) (rest := []) (v := some (.null)) S hG (c_X11_at_f l G B th mc cp f g H hM k52 d w (by omega) q19) gX11_demandedNow_X11_at rfl ⟨rfl, rfl⟩ nmX11_at ⟨Nat.le_of_ble_eq_true rfl, Nat.le_of_ble_eq_true rfl⟩ (rd_rcv hG.1 (mP_0 hM) rfl) rfl hl.1 rfl (Nat.le_of_ble_eq_true rfl) ⟨Nat.zero_le _, Nat.zero_le _⟩ dX11_demandedNow_71 ?_
            refine W.eq (g2 := F0 mZ 74 ls [.null]) rfl ?_
            refine lv_astoreN (lv' := [(10, .null), (9, .int (nI k52)), (8, .int z52_8), (0, .ref (B 0)), (1, .int (nI i)), (2, .int d), (3, .int w), (4, .null), (5, .ref (B (40 + i))), (6, .int (mKi f i)), (7, .int (mSl f i))]) hx hb dX11_demandedNow_74 hl (by decide) rfl (fun ls hl => ?_)
            refine lv_aloadN hx hb dX11_demandedNow_76 (lv_at hl 0 rfl) ?_
            refine lv_ifnullN (tgt := 109) hx hb dX11_demandedNow_78 (by decide) ?_
            refine lv_iinc (v := nI (k52 + 1)) (lv' := [(9, .int (nI (k52 + 1))), (10, .null), (8, .int z52_8), (0, .ref (B 0)), (1, .int (nI i)), (2, .int d), (3, .int w), (4, .null), (5, .ref (B (40 + i))), (6, .int (mKi f i)), (7, .int (mSl f i))]) hx hb dX11_demandedNow_109 hl (k := 1) rfl (nI_inc _) (by decide) rfl (fun ls hl => ?_)
            refine lv_goto (tgt := 52) hx hb dX11_demandedNow_112 (by decide) ?_
            exact ih52 (k52 + 1) (by omega) _ (by subst ez52_8; first | rfl | (simp only [fl, c1, c18, d18, q19p, ne_eq, not_true_eq_false, not_false_eq_true, and_true, true_and, and_false, false_and, or_true, true_or, or_false, false_or, and_self, or_self, decide_eq_true_eq, ↓reduceIte]; done) | (simp only [fl, c1, c18, d18, q19p, ne_eq, not_true_eq_false, not_false_eq_true, and_true, true_and, and_false, false_and, or_true, true_or, or_false, false_or, and_self, or_self, decide_eq_true_eq, ↓reduceIte]; rfl) | (simp [fl, c1, c18, d18, q19p]; done) | (simp only [fl, c1, c18, d18, q19p, ne_eq, not_true_eq_false, not_false_eq_true, and_true, true_and, and_false, false_and, or_true, true_or, or_false, false_or, and_self, or_self, decide_eq_true_eq, ↓reduceIte])) ls (lv_sub hl [0, 2, 3, 4, 5, 6, 7, 8, 9, 10] rfl)
    exact loop52 (g 1 + 1) 0 (by omega) _ (by first | rfl | first | rfl | (simp only [fl, c1, ne_eq, not_true_eq_false, not_false_eq_true, and_true, true_and, and_false, false_and, or_true, true_or, or_false, false_or, and_self, or_self, decide_eq_true_eq, ↓reduceIte]; done) | (simp only [fl, c1, ne_eq, not_true_eq_false, not_false_eq_true, and_true, true_and, and_false, false_and, or_true, true_or, or_false, false_or, and_self, or_self, decide_eq_true_eq, ↓reduceIte]; rfl) | (simp [fl, c1]; done) | (simp only [fl, c1, ne_eq, not_true_eq_false, not_false_eq_true, and_true, true_and, and_false, false_and, or_true, true_or, or_false, false_or, and_self, or_self, decide_eq_true_eq, ↓reduceIte])) ls (lv_sub hl [0, 1, 5, 6, 7, 8, 9, 4, 3, 2] rfl)

