
set_option maxHeartbeats 1000000 in
set_option maxRecDepth 100000 in
theorem c_X11_demandedNow_s (l : Launch) (G : GT) (B : Nat → Nat) (th : Int32) (mc : Nat → Int32) (cp : Nat → Nat) (f : Nat → Nat → Int32) (g : Nat → Nat) (H : Heap) (hM : MP G B th mc cp f g H) (o : Nat) (x y t a b : Int32) (ho : va_at G.1 vwCl (o, .inr (10, [.int x, .int y, .int t, .int a, .int b])) H) (i : Nat) (d w : Int32) (hi : i < g 3) : RdV l G H yX11_demandedNow wsX11_demandedNow { frames := 4, cells := 0, slots := 0, locals := 89 } [.ref (B 0), .int (nI i), .int d, .int w, .ref o] (some (.int (dmd (fM f (g 1) x y t) f i (g 1 + 1) (pM f g d w a b)))) := by
  refine rd_of (cc := cX11_demandedNow) (maxL := 12) (ret := (some .int)) (by decide) rfl (Nat.le_of_ble_eq_true rfl) ?_
  intro pZ eZ sZ mZ bZ meZ cZ ls S hr hlk hl hHs hG
  have S : CallFix pZ mZ cZ cX11_demandedNow 12 sZ _ wsX11_demandedNow RX11 := S
  have hx := S.1
  have hb := S.2.1
  have hown := S.2.2.2.1
  have hts := S.2.2.2.2
  have hl : lv_has ls 12 [(0, .ref (B 0)), (1, .int (nI i)), (2, .int d), (3, .int w), (4, .ref o)] := hl
  have w0 := hts (.fieldLink RX11 23 "MinimaRoomModel" "procedures" "Ljava/util/ArrayList;") (by decide +kernel)
  have w1 := hts (.classLink RX11 59 "MinimaRoomModel$Procedure") (by decide +kernel)
  have w2 := hts (.fieldLink RX11 16 "MinimaRoomModel" "kinds" "[I") (by decide +kernel)
  have w3 := hts (.fieldLink RX11 61 "MinimaRoomModel$Procedure" "aid" "I") (by decide +kernel)
  have w4 := hts (.fieldLink RX11 67 "MinimaRoomModel" "BASES" "[I") (by decide +kernel)
  have w5 := hts (.fieldLink RX11 10 "MinimaRoomModel" "obstacles" "Ljava/util/ArrayList;") (by decide +kernel)
  have w6 := hts (.fieldLink RX11 74 "MinimaRoomModel$Obstacle" "x" "I") (by decide +kernel)
  have w7 := hts (.fieldLink RX11 79 "MinimaRoomModel" "MARGINS" "[I") (by decide +kernel)
  have w8 := hts (.fieldLink RX11 64 "MinimaRoomModel$Procedure" "slope" "I") (by decide +kernel)
  have iX11 : ∀ w ∈ u_ws RX11 TX11 11, w ∈ wsX11_demandedNow := by decide +kernel
  have iX10 : ∀ w ∈ u_ws RX10 TX10 3, w ∈ wsX11_demandedNow := by decide +kernel
  have iX9 : ∀ w ∈ u_ws RX9 TX9 5, w ∈ wsX11_demandedNow := by decide +kernel
  have m_max_86 : [.methodLink RX11 86 Lib.Math.max.name, .static Lib.Math.max.name, .initialized "java/lang/Math", .code Lib.Math.max.name Lib.Math.max.code 2 (some .int)] ⊆ wsX11_demandedNow := by decide +kernel
  have hI := hM.1
  have hgb := hI.1.1
  have hg0 := hI.1.2.1
  have hg1 := hI.1.2.2.1
  have hg3 := hI.1.2.2.2.1
  have hg4 := hI.1.2.2.2.2.1
  have hg5 := hI.1.2.2.2.2.2
  refine lv_aload_n hx hb dX11_demandedNow_0 rfl (lv_at hl 0 rfl) ?_
  refine rd_get (own := RX11) (x := .ref (B 6)) S hG.1 iX11 (mP_0 hM) 7 rfl (by decide) w0 rfl dX11_demandedNow_1 ?_
  refine lv_iload_n hx hb dX11_demandedNow_4 rfl (lv_at hl 1 rfl) ?_
  refine rd_V (As := [.int (nI i)]) (rest := []) (v := some (.ref (B (40 + i)))) S hG (c_Jx4a65c_get_915e3 l G H (B 6) (eA G B cp 6 9) (mc 6) (g 3) (cp 6) (lsE B 40 (g 3)) (mP_6 hM) (mP_e6 hM (by omega)) hM.1.2.1.2.1 (hM.1.2.1.2.2.2.2 _) i (B (40 + i)) (by omega) (lsE_at (by omega))) gX11_demandedNow_Jx4a65c_get_915e3 rfl ⟨rfl, rfl⟩ nmJx4a65c_get_915e3 ⟨Nat.le_of_ble_eq_true rfl, Nat.le_of_ble_eq_true rfl⟩ (rd_rcv hG.1 (mP_6 hM) rfl) rfl hl.1 rfl (Nat.le_of_ble_eq_true rfl) ⟨Nat.zero_le _, Nat.zero_le _⟩ dX11_demandedNow_5 ?_
  refine W.eq (g2 := F0 mZ 8 ls [.ref (B (40 + i))]) rfl ?_
  refine rd_castS S hG.1 (mP_pr hM (i := i) (by omega)) rfl rfl w1 dX11_demandedNow_8 ?_
  refine lv_astore (lv' := [(5, .ref (B (40 + i))), (0, .ref (B 0)), (1, .int (nI i)), (2, .int d), (3, .int w), (4, .ref o)]) hx hb dX11_demandedNow_11 hl (by decide) rfl (fun ls hl => ?_)
  refine lv_aload_n hx hb dX11_demandedNow_13 rfl (lv_at hl 1 rfl) ?_
  refine rd_get (own := RX11) (x := .ref (B 1)) S hG.1 iX11 (mP_0 hM) 5 rfl (by decide) w2 rfl dX11_demandedNow_14 ?_
  refine lv_aload hx hb dX11_demandedNow_17 (lv_at hl 0 rfl) ?_
  refine rd_get (own := RX11) (x := .int (f 17 i)) S hG.1 iX10 (mP_pr hM (i := i) (by omega)) 0 rfl (by decide) w3 rfl dX11_demandedNow_19 ?_
  refine rd_iald S hG.1 (mP_1 hM) (vp_aid hI (by omega)) dX11_demandedNow_22 ?_
  refine W.eq (g2 := F0 mZ 23 ls [.int (mKi f i)]) rfl ?_
  refine lv_istore (lv' := [(6, .int (mKi f i)), (5, .ref (B (40 + i))), (0, .ref (B 0)), (1, .int (nI i)), (2, .int d), (3, .int w), (4, .ref o)]) hx hb dX11_demandedNow_23 hl (by decide) rfl (fun ls hl => ?_)
  refine lv_iload hx hb dX11_demandedNow_25 (lv_at hl 0 rfl) ?_
  refine lv_if_ne (tgt := 38) hx hb dX11_demandedNow_27 (by decide) (fun c1 => ?_) (fun c1 => ?_)
  · refine lv_iconst (v := (-1)) hx hb dX11_demandedNow_38 (by decide) ?_
    refine W.eq (g2 := F0 mZ 39 ls [.int (mSl f i)]) (congrArg (fun z => F0 mZ 39 ls [Value.int z]) (if_neg c1).symm) ?_
    refine lv_istore (lv' := [(7, .int (mSl f i)), (6, .int (mKi f i)), (5, .ref (B (40 + i))), (0, .ref (B 0)), (1, .int (nI i)), (2, .int d), (3, .int w), (4, .ref o)]) hx hb dX11_demandedNow_39 hl (by decide) rfl (fun ls hl => ?_)
    refine rd_gets (own := RX11) (x := .ref (G.2.2.2 1)) S hHs hG.2.2.2.2.1.2.1 w4 dX11_demandedNow_41 ?_
    refine lv_iload hx hb dX11_demandedNow_44 (lv_at hl 1 rfl) ?_
    refine rd_tald S hG.2.2.2.2.2.2.1 (vp_ki hI (by omega)) dX11_demandedNow_46 ?_
    refine W.eq (g2 := F0 mZ 47 ls [.int (bases (cnt (mKi f i)))]) rfl ?_
    refine lv_istore (lv' := [(8, .int (bases (cnt (mKi f i)))), (7, .int (mSl f i)), (6, .int (mKi f i)), (5, .ref (B (40 + i))), (0, .ref (B 0)), (1, .int (nI i)), (2, .int d), (3, .int w), (4, .ref o)]) hx hb dX11_demandedNow_47 hl (by decide) rfl (fun ls hl => ?_)
    refine lv_iconst (v := 0) hx hb dX11_demandedNow_49 (by decide) ?_
    refine lv_istore (lv' := [(9, .int 0), (8, .int (bases (cnt (mKi f i)))), (7, .int (mSl f i)), (6, .int (mKi f i)), (5, .ref (B (40 + i))), (0, .ref (B 0)), (1, .int (nI i)), (2, .int d), (3, .int w), (4, .ref o)]) hx hb dX11_demandedNow_50 hl (by decide) rfl (fun ls hl => ?_)
    have loop52 : ∀ (n52 k52 : Nat), k52 + n52 = g 1 + 1 → ∀ (z52_8 : Int32), z52_8 = fl k52 (fun j h => if pM f g d w a b j = true ∧ ¬ (fM f (g 1) x y t) 10 j < 0 then imax h (mNd ((fM f (g 1) x y t) 10 j) ((fM f (g 1) x y t) 11 j) ((fM f (g 1) x y t) 12 j) (mMg f i) (mSl f i)) else h) (bases (cnt (mKi f i))) → ∀ (ls : Array Slot), lv_has ls 12 [(9, .int (nI k52)), (8, .int z52_8), (0, .ref (B 0)), (1, .int (nI i)), (2, .int d), (3, .int w), (4, .ref o), (5, .ref (B (40 + i))), (6, .int (mKi f i)), (7, .int (mSl f i))] → W pZ l eZ ({ frames := 4, cells := 0, slots := 0, locals := 89 } : Room) sZ mZ ([.ref (B 0), .int (nI i), .int d, .int w, .ref o] : List Value).toArray bZ meZ cZ H [] 0 0 (rd_Q bZ H [.ref (B 0), .int (nI i), .int d, .int w, .ref o] sZ (some (.int (dmd (fM f (g 1) x y t) f i (g 1 + 1) (pM f g d w a b))))) (F0 mZ 52 ls []) := by
      intro n52
      induction n52 with
      | zero =>
        intro k52 hk52 z52_8 ez52_8 ls hl
        obtain rfl : k52 = g 1 + 1 := by omega
        refine lv_iload hx hb dX11_demandedNow_52 (lv_at hl 0 rfl) ?_
        refine lv_aload_n hx hb dX11_demandedNow_54 rfl (lv_at hl 2 rfl) ?_
        refine rd_get (own := RX11) (x := .ref (B 5)) S hG.1 iX11 (mP_0 hM) 4 rfl (by decide) w5 rfl dX11_demandedNow_55 ?_
        refine rd_V (As := []) (rest := [.int (nI (g 1 + 1))]) (v := some (.int (nI (g 1)))) S hG (c_Jx4a65c_size_8abf5 l G H (B 5) (eA G B cp 5 8) (mc 5) (nI (g 1)) (mP_5 hM)) gX11_demandedNow_Jx4a65c_size_8abf5 rfl ⟨rfl, rfl⟩ nmJx4a65c_size_8abf5 ⟨Nat.le_of_ble_eq_true rfl, Nat.le_of_ble_eq_true rfl⟩ (rd_rcv hG.1 (mP_5 hM) rfl) rfl hl.1 rfl (Nat.le_of_ble_eq_true rfl) ⟨Nat.zero_le _, Nat.zero_le _⟩ dX11_demandedNow_58 ?_
        refine W.eq (g2 := F0 mZ 61 ls [.int (nI (g 1)), .int (nI (g 1 + 1))]) rfl ?_
        refine lv_icmp_gt (tgt := 115) hx hb dX11_demandedNow_61 (by decide) (fun c2 => ?_) (fun c2 => ?_)
        · have d2 := Int32.not_le.mpr c2
          refine lv_iconst (v := 0) hx hb dX11_demandedNow_115 (by decide) ?_
          refine lv_istore (lv' := [(9, .int 0), (8, .int z52_8), (0, .ref (B 0)), (1, .int (nI i)), (2, .int d), (3, .int w), (4, .ref o), (5, .ref (B (40 + i))), (6, .int (mKi f i)), (7, .int (mSl f i))]) hx hb dX11_demandedNow_116 hl (by decide) rfl (fun ls hl => ?_)
          have ez_ : z52_8 = dmH (fM f (g 1) x y t) f i (g 1 + 1) (pM f g d w a b) := ez52_8
          rw [ez_] at hl
          refine lv_iconst (v := 0) hx hb dX11_demandedNow_118 (by decide) ?_
          refine lv_istore (lv' := [(10, .int 0), (9, .int 0), (8, .int (dmH (fM f (g 1) x y t) f i (g 1 + 1) (pM f g d w a b))), (0, .ref (B 0)), (1, .int (nI i)), (2, .int d), (3, .int w), (4, .ref o), (5, .ref (B (40 + i))), (6, .int (mKi f i)), (7, .int (mSl f i))]) hx hb dX11_demandedNow_119 hl (by decide) rfl (fun ls hl => ?_)
          have loop121 : ∀ (n121 k121 : Nat), k121 + n121 = g 1 + 1 → ∀ (z121_9 : Int32), z121_9 = fl k121 (fun j a9 => if pM f g d w a b j = true ∧ (fM f (g 1) x y t) 10 j < 0 then imax a9 (mAb ((fM f (g 1) x y t) 12 j) ((fM f (g 1) x y t) 10 j) (dmH (fM f (g 1) x y t) f i (g 1 + 1) (pM f g d w a b))) else a9) 0 → ∀ (ls : Array Slot), lv_has ls 12 [(10, .int (nI k121)), (9, .int z121_9), (0, .ref (B 0)), (1, .int (nI i)), (2, .int d), (3, .int w), (4, .ref o), (5, .ref (B (40 + i))), (6, .int (mKi f i)), (7, .int (mSl f i)), (8, .int (dmH (fM f (g 1) x y t) f i (g 1 + 1) (pM f g d w a b)))] → W pZ l eZ ({ frames := 4, cells := 0, slots := 0, locals := 89 } : Room) sZ mZ ([.ref (B 0), .int (nI i), .int d, .int w, .ref o] : List Value).toArray bZ meZ cZ H [] 0 0 (rd_Q bZ H [.ref (B 0), .int (nI i), .int d, .int w, .ref o] sZ (some (.int (dmd (fM f (g 1) x y t) f i (g 1 + 1) (pM f g d w a b))))) (F0 mZ 121 ls []) := by
            intro n121
            induction n121 with
            | zero =>
              intro k121 hk121 z121_9 ez121_9 ls hl
              obtain rfl : k121 = g 1 + 1 := by omega
              refine lv_iload hx hb dX11_demandedNow_121 (lv_at hl 0 rfl) ?_
              refine lv_aload_n hx hb dX11_demandedNow_123 rfl (lv_at hl 2 rfl) ?_
              refine rd_get (own := RX11) (x := .ref (B 5)) S hG.1 iX11 (mP_0 hM) 4 rfl (by decide) w5 rfl dX11_demandedNow_124 ?_
              refine rd_V (As := []) (rest := [.int (nI (g 1 + 1))]) (v := some (.int (nI (g 1)))) S hG (c_Jx4a65c_size_8abf5 l G H (B 5) (eA G B cp 5 8) (mc 5) (nI (g 1)) (mP_5 hM)) gX11_demandedNow_Jx4a65c_size_8abf5 rfl ⟨rfl, rfl⟩ nmJx4a65c_size_8abf5 ⟨Nat.le_of_ble_eq_true rfl, Nat.le_of_ble_eq_true rfl⟩ (rd_rcv hG.1 (mP_5 hM) rfl) rfl hl.1 rfl (Nat.le_of_ble_eq_true rfl) ⟨Nat.zero_le _, Nat.zero_le _⟩ dX11_demandedNow_127 ?_
              refine W.eq (g2 := F0 mZ 130 ls [.int (nI (g 1)), .int (nI (g 1 + 1))]) rfl ?_
              refine lv_icmp_gt (tgt := 178) hx hb dX11_demandedNow_130 (by decide) (fun c3 => ?_) (fun c3 => ?_)
              · have d3 := Int32.not_le.mpr c3
                refine lv_iload hx hb dX11_demandedNow_178 (lv_at hl 10 rfl) ?_
                refine lv_iload hx hb dX11_demandedNow_180 (lv_at hl 1 rfl) ?_
                refine lv_iadd hx hb dX11_demandedNow_182 ?_
                refine lv_bipush (v := 9) hx hb dX11_demandedNow_183 (by decide) ?_
                refine lv_iadd hx hb dX11_demandedNow_185 ?_
                refine lv_bipush (v := 10) hx hb dX11_demandedNow_186 (by decide) ?_
                refine lv_idiv hx hb dX11_demandedNow_188 (by decide) ?_
                refine lv_bipush (v := 10) hx hb dX11_demandedNow_189 (by decide) ?_
                refine lv_imul hx hb dX11_demandedNow_191 ?_
                exact rd_iret S hr hlk dX11_demandedNow_192 (congrArg (fun z => some (Value.int z)) (by subst ez121_9; rfl))
              · first | exact absurd c3 c2 | exact absurd c2 c3 | exact absurd (Int32.not_lt.mp c3) (Int32.not_le.mpr c2) | exact absurd (Int32.not_lt.mpr c3) (by simp only [Int32.not_lt]; exact c2)
            | succ n121 ih121 =>
              intro k121 hk121 z121_9 ez121_9 ls hl
              refine lv_iload hx hb dX11_demandedNow_121 (lv_at hl 0 rfl) ?_
              refine lv_aload_n hx hb dX11_demandedNow_123 rfl (lv_at hl 2 rfl) ?_
              refine rd_get (own := RX11) (x := .ref (B 5)) S hG.1 iX11 (mP_0 hM) 4 rfl (by decide) w5 rfl dX11_demandedNow_124 ?_
              refine rd_V (As := []) (rest := [.int (nI k121)]) (v := some (.int (nI (g 1)))) S hG (c_Jx4a65c_size_8abf5 l G H (B 5) (eA G B cp 5 8) (mc 5) (nI (g 1)) (mP_5 hM)) gX11_demandedNow_Jx4a65c_size_8abf5 rfl ⟨rfl, rfl⟩ nmJx4a65c_size_8abf5 ⟨Nat.le_of_ble_eq_true rfl, Nat.le_of_ble_eq_true rfl⟩ (rd_rcv hG.1 (mP_5 hM) rfl) rfl hl.1 rfl (Nat.le_of_ble_eq_true rfl) ⟨Nat.zero_le _, Nat.zero_le _⟩ dX11_demandedNow_127 ?_
              refine W.eq (g2 := F0 mZ 130 ls [.int (nI (g 1)), .int (nI k121)]) rfl ?_
              refine lv_icmp_gt (tgt := 178) hx hb dX11_demandedNow_130 (by decide) (fun c4 => ?_) (fun c4 => ?_)
              · exact absurd c4 (nI_nlt (by omega) (by omega))
              · have d4 := Int32.not_lt.mp c4
                refine lv_aload_n hx hb dX11_demandedNow_133 rfl (lv_at hl 2 rfl) ?_
                refine lv_iload hx hb dX11_demandedNow_134 (lv_at hl 0 rfl) ?_
                refine lv_iload_n hx hb dX11_demandedNow_136 rfl (lv_at hl 4 rfl) ?_
                refine lv_iload_n hx hb dX11_demandedNow_137 rfl (lv_at hl 5 rfl) ?_
                refine lv_aload hx hb dX11_demandedNow_138 (lv_at hl 6 rfl) ?_
                by_cases q6 : k121 < g 1
                · have q6e : fM f (g 1) x y t 10 k121 = f 10 k121 ∧ fM f (g 1) x y t 11 k121 = f 11 k121 ∧ fM f (g 1) x y t 12 k121 = f 12 k121 := fM_lo q6
                  rcases Classical.em (atq f g k121 d w) with q5 | q5
                  · have q5p : pM f g d w a b k121 = true := pM_t q5
                    refine rd_V (As := [.int (nI k121), .int d, .int w, .ref o]) (rest := []) (v := some (.ref (B (20 + k121)))) S hG (c_X11_at_st l G B th mc cp f g H hM o x y t a b ho k121 d w q5) gX11_demandedNow_X11_at rfl ⟨rfl, rfl⟩ nmX11_at ⟨Nat.le_of_ble_eq_true rfl, Nat.le_of_ble_eq_true rfl⟩ (rd_rcv hG.1 (mP_0 hM) rfl) rfl hl.1 rfl (Nat.le_of_ble_eq_true rfl) ⟨Nat.zero_le _, Nat.zero_le _⟩ dX11_demandedNow_140 ?_
                    refine W.eq (g2 := F0 mZ 143 ls [.ref (B (20 + k121))]) rfl ?_
                    refine lv_astore (lv' := [(11, .ref (B (20 + k121))), (10, .int (nI k121)), (9, .int z121_9), (0, .ref (B 0)), (1, .int (nI i)), (2, .int d), (3, .int w), (4, .ref o), (5, .ref (B (40 + i))), (6, .int (mKi f i)), (7, .int (mSl f i)), (8, .int (dmH (fM f (g 1) x y t) f i (g 1 + 1) (pM f g d w a b)))]) hx hb dX11_demandedNow_143 hl (by decide) rfl (fun ls hl => ?_)
                    refine lv_aload hx hb dX11_demandedNow_145 (lv_at hl 0 rfl) ?_
                    refine lv_ifnull hx hb dX11_demandedNow_147 ?_
                    refine lv_aload hx hb dX11_demandedNow_150 (lv_at hl 0 rfl) ?_
                    refine rd_get (own := RX11) (x := .int (f 10 k121)) S hG.1 iX9 (mP_ob hM (i := k121) (by omega)) 0 rfl (by decide) w6 rfl dX11_demandedNow_152 ?_
                    refine lv_if_ge (tgt := 172) hx hb dX11_demandedNow_155 (by decide) (fun c7 => ?_) (fun c7 => ?_)
                    · have d7 := Int32.not_lt.mpr c7
                      refine lv_iinc (v := nI (k121 + 1)) (lv' := [(10, .int (nI (k121 + 1))), (11, .ref (B (20 + k121))), (9, .int z121_9), (0, .ref (B 0)), (1, .int (nI i)), (2, .int d), (3, .int w), (4, .ref o), (5, .ref (B (40 + i))), (6, .int (mKi f i)), (7, .int (mSl f i)), (8, .int (dmH (fM f (g 1) x y t) f i (g 1 + 1) (pM f g d w a b)))]) hx hb dX11_demandedNow_172 hl (k := 1) rfl (nI_inc _) (by decide) rfl (fun ls hl => ?_)
                      refine lv_goto (tgt := 121) hx hb dX11_demandedNow_175 (by decide) ?_
                      exact ih121 (k121 + 1) (by omega) _ (by subst ez121_9; first | rfl | (simp only [fl, c1, c2, d2, c4, d4, q5p, q6e.1, q6e.2.1, q6e.2.2, c7, d7, ne_eq, not_true_eq_false, not_false_eq_true, and_true, true_and, and_false, false_and, or_true, true_or, or_false, false_or, and_self, or_self, decide_eq_true_eq, ↓reduceIte]; done) | (simp only [fl, c1, c2, d2, c4, d4, q5p, q6e.1, q6e.2.1, q6e.2.2, c7, d7, ne_eq, not_true_eq_false, not_false_eq_true, and_true, true_and, and_false, false_and, or_true, true_or, or_false, false_or, and_self, or_self, decide_eq_true_eq, ↓reduceIte]; rfl) | (simp [fl, c1, c2, d2, c4, d4, q5p, q6e.1, q6e.2.1, q6e.2.2, c7, d7]; done) | (simp only [fl, c1, c2, d2, c4, d4, q5p, q6e.1, q6e.2.1, q6e.2.2, c7, d7, ne_eq, not_true_eq_false, not_false_eq_true, and_true, true_and, and_false, false_and, or_true, true_or, or_false, false_or, and_self, or_self, decide_eq_true_eq, ↓reduceIte])) ls (lv_sub hl [0, 2, 3, 4, 5, 6, 7, 8, 9, 10, 11] rfl)
                    · have d7 := Int32.not_le.mp c7
                      refine lv_iload hx hb dX11_demandedNow_158 (lv_at hl 2 rfl) ?_
                      refine lv_aload hx hb dX11_demandedNow_160 (lv_at hl 0 rfl) ?_
                      refine lv_iload hx hb dX11_demandedNow_162 (lv_at hl 11 rfl) ?_
                      refine rd_V (As := [.int (dmH (fM f (g 1) x y t) f i (g 1 + 1) (pM f g d w a b))]) (rest := [.int z121_9]) (v := some (.int (mAb (f 12 k121) (f 10 k121) (dmH (fM f (g 1) x y t) f i (g 1 + 1) (pM f g d w a b))))) S hG (c_X9_above l G H (B (20 + k121)) (f 10 k121) (f 11 k121) (f 12 k121) (f 13 k121) (f 14 k121) (mP_ob hM (i := k121) (by omega)) (dmH (fM f (g 1) x y t) f i (g 1 + 1) (pM f g d w a b))) gX11_demandedNow_X9_above rfl ⟨rfl, rfl⟩ nmX9_above ⟨Nat.le_of_ble_eq_true rfl, Nat.le_of_ble_eq_true rfl⟩ (rd_rcv hG.1 (mP_ob hM (i := k121) (by omega)) rfl) rfl hl.1 rfl (Nat.le_of_ble_eq_true rfl) ⟨Nat.zero_le _, Nat.zero_le _⟩ dX11_demandedNow_164 ?_
                      refine W.eq (g2 := F0 mZ 167 ls [.int (mAb (f 12 k121) (f 10 k121) (dmH (fM f (g 1) x y t) f i (g 1 + 1) (pM f g d w a b))), .int z121_9]) rfl ?_
                      refine rd_max S hl.1 m_max_86 ⟨Nat.le_of_ble_eq_true rfl, Nat.le_of_ble_eq_true rfl⟩ (Nat.le_of_ble_eq_true rfl) ⟨Nat.zero_le _, Nat.zero_le _⟩ dX11_demandedNow_167 ?_
                      refine W.eq (g2 := F0 mZ 170 ls [.int (imax z121_9 (mAb (f 12 k121) (f 10 k121) (dmH (fM f (g 1) x y t) f i (g 1 + 1) (pM f g d w a b))))]) rfl ?_
                      refine lv_topi (fun x8 ex8 => ?_)
                      refine lv_istore (lv' := [(9, .int x8), (11, .ref (B (20 + k121))), (10, .int (nI k121)), (0, .ref (B 0)), (1, .int (nI i)), (2, .int d), (3, .int w), (4, .ref o), (5, .ref (B (40 + i))), (6, .int (mKi f i)), (7, .int (mSl f i)), (8, .int (dmH (fM f (g 1) x y t) f i (g 1 + 1) (pM f g d w a b)))]) hx hb dX11_demandedNow_170 hl (by decide) rfl (fun ls hl => ?_)
                      refine lv_iinc (v := nI (k121 + 1)) (lv' := [(10, .int (nI (k121 + 1))), (9, .int x8), (11, .ref (B (20 + k121))), (0, .ref (B 0)), (1, .int (nI i)), (2, .int d), (3, .int w), (4, .ref o), (5, .ref (B (40 + i))), (6, .int (mKi f i)), (7, .int (mSl f i)), (8, .int (dmH (fM f (g 1) x y t) f i (g 1 + 1) (pM f g d w a b)))]) hx hb dX11_demandedNow_172 hl (k := 2) rfl (nI_inc _) (by decide) rfl (fun ls hl => ?_)
                      refine lv_goto (tgt := 121) hx hb dX11_demandedNow_175 (by decide) ?_
                      exact ih121 (k121 + 1) (by omega) _ (by subst ex8; subst ez121_9; first | rfl | (simp only [fl, c1, c2, d2, c4, d4, q5p, q6e.1, q6e.2.1, q6e.2.2, c7, d7, ne_eq, not_true_eq_false, not_false_eq_true, and_true, true_and, and_false, false_and, or_true, true_or, or_false, false_or, and_self, or_self, decide_eq_true_eq, ↓reduceIte]; done) | (simp only [fl, c1, c2, d2, c4, d4, q5p, q6e.1, q6e.2.1, q6e.2.2, c7, d7, ne_eq, not_true_eq_false, not_false_eq_true, and_true, true_and, and_false, false_and, or_true, true_or, or_false, false_or, and_self, or_self, decide_eq_true_eq, ↓reduceIte]; rfl) | (simp [fl, c1, c2, d2, c4, d4, q5p, q6e.1, q6e.2.1, q6e.2.2, c7, d7]; done) | (simp only [fl, c1, c2, d2, c4, d4, q5p, q6e.1, q6e.2.1, q6e.2.2, c7, d7, ne_eq, not_true_eq_false, not_false_eq_true, and_true, true_and, and_false, false_and, or_true, true_or, or_false, false_or, and_self, or_self, decide_eq_true_eq, ↓reduceIte])) ls (lv_sub hl [0, 1, 3, 4, 5, 6, 7, 8, 9, 10, 11] rfl)
                  · have q5p : ¬ pM f g d w a b k121 = true := pM_f q6 q5
                    refine rd_V (As := [.int (nI k121), .int d, .int w, .ref o]) (rest := []) (v := some (.null)) S hG (c_X11_at_sf l G B th mc cp f g H hM o x y t a b ho k121 d w q6 q5) gX11_demandedNow_X11_at rfl ⟨rfl, rfl⟩ nmX11_at ⟨Nat.le_of_ble_eq_true rfl, Nat.le_of_ble_eq_true rfl⟩ (rd_rcv hG.1 (mP_0 hM) rfl) rfl hl.1 rfl (Nat.le_of_ble_eq_true rfl) ⟨Nat.zero_le _, Nat.zero_le _⟩ dX11_demandedNow_140 ?_
                    refine W.eq (g2 := F0 mZ 143 ls [.null]) rfl ?_
                    refine lv_astoreN (lv' := [(11, .null), (10, .int (nI k121)), (9, .int z121_9), (0, .ref (B 0)), (1, .int (nI i)), (2, .int d), (3, .int w), (4, .ref o), (5, .ref (B (40 + i))), (6, .int (mKi f i)), (7, .int (mSl f i)), (8, .int (dmH (fM f (g 1) x y t) f i (g 1 + 1) (pM f g d w a b)))]) hx hb dX11_demandedNow_143 hl (by decide) rfl (fun ls hl => ?_)
                    refine lv_aloadN hx hb dX11_demandedNow_145 (lv_at hl 0 rfl) ?_
                    refine lv_ifnullN (tgt := 172) hx hb dX11_demandedNow_147 (by decide) ?_
                    refine lv_iinc (v := nI (k121 + 1)) (lv' := [(10, .int (nI (k121 + 1))), (11, .null), (9, .int z121_9), (0, .ref (B 0)), (1, .int (nI i)), (2, .int d), (3, .int w), (4, .ref o), (5, .ref (B (40 + i))), (6, .int (mKi f i)), (7, .int (mSl f i)), (8, .int (dmH (fM f (g 1) x y t) f i (g 1 + 1) (pM f g d w a b)))]) hx hb dX11_demandedNow_172 hl (k := 1) rfl (nI_inc _) (by decide) rfl (fun ls hl => ?_)
                    refine lv_goto (tgt := 121) hx hb dX11_demandedNow_175 (by decide) ?_
                    exact ih121 (k121 + 1) (by omega) _ (by subst ez121_9; first | rfl | (simp only [fl, c1, c2, d2, c4, d4, q5p, ne_eq, not_true_eq_false, not_false_eq_true, and_true, true_and, and_false, false_and, or_true, true_or, or_false, false_or, and_self, or_self, decide_eq_true_eq, ↓reduceIte]; done) | (simp only [fl, c1, c2, d2, c4, d4, q5p, ne_eq, not_true_eq_false, not_false_eq_true, and_true, true_and, and_false, false_and, or_true, true_or, or_false, false_or, and_self, or_self, decide_eq_true_eq, ↓reduceIte]; rfl) | (simp [fl, c1, c2, d2, c4, d4, q5p]; done) | (simp only [fl, c1, c2, d2, c4, d4, q5p, ne_eq, not_true_eq_false, not_false_eq_true, and_true, true_and, and_false, false_and, or_true, true_or, or_false, false_or, and_self, or_self, decide_eq_true_eq, ↓reduceIte])) ls (lv_sub hl [0, 2, 3, 4, 5, 6, 7, 8, 9, 10, 11] rfl)
                · have q6N : k121 = g 1 := by omega
                  have q6e : fM f (g 1) x y t 10 k121 = x ∧ fM f (g 1) x y t 11 k121 = y ∧ fM f (g 1) x y t 12 k121 = t := by rw [q6N]; exact fM_hi f (g 1) x y t
                  by_cases q5 : ¬ nI (g 1) = w ∧ thX a b d = true
                  · have q5p : pM f g d w a b k121 = true := by rw [q6N]; exact pM_ot q5
                    refine rd_V (As := [.int (nI k121), .int d, .int w, .ref o]) (rest := []) (v := some (.ref o)) S hG (by rw [q6N]; exact c_X11_at_ot l G B th mc cp f g H hM o x y t a b ho d w q5.1 q5.2) gX11_demandedNow_X11_at rfl ⟨rfl, rfl⟩ nmX11_at ⟨Nat.le_of_ble_eq_true rfl, Nat.le_of_ble_eq_true rfl⟩ (rd_rcv hG.1 (mP_0 hM) rfl) rfl hl.1 rfl (Nat.le_of_ble_eq_true rfl) ⟨Nat.zero_le _, Nat.zero_le _⟩ dX11_demandedNow_140 ?_
                    refine W.eq (g2 := F0 mZ 143 ls [.ref o]) rfl ?_
                    refine lv_astore (lv' := [(11, .ref o), (10, .int (nI k121)), (9, .int z121_9), (0, .ref (B 0)), (1, .int (nI i)), (2, .int d), (3, .int w), (4, .ref o), (5, .ref (B (40 + i))), (6, .int (mKi f i)), (7, .int (mSl f i)), (8, .int (dmH (fM f (g 1) x y t) f i (g 1 + 1) (pM f g d w a b)))]) hx hb dX11_demandedNow_143 hl (by decide) rfl (fun ls hl => ?_)
                    refine lv_aload hx hb dX11_demandedNow_145 (lv_at hl 0 rfl) ?_
                    refine lv_ifnull hx hb dX11_demandedNow_147 ?_
                    refine lv_aload hx hb dX11_demandedNow_150 (lv_at hl 0 rfl) ?_
                    refine rd_get (own := RX11) (x := .int x) S hG.1 iX9 ho 0 rfl (by decide) w6 rfl dX11_demandedNow_152 ?_
                    refine lv_if_ge (tgt := 172) hx hb dX11_demandedNow_155 (by decide) (fun c9 => ?_) (fun c9 => ?_)
                    · have d9 := Int32.not_lt.mpr c9
                      refine lv_iinc (v := nI (k121 + 1)) (lv' := [(10, .int (nI (k121 + 1))), (11, .ref o), (9, .int z121_9), (0, .ref (B 0)), (1, .int (nI i)), (2, .int d), (3, .int w), (4, .ref o), (5, .ref (B (40 + i))), (6, .int (mKi f i)), (7, .int (mSl f i)), (8, .int (dmH (fM f (g 1) x y t) f i (g 1 + 1) (pM f g d w a b)))]) hx hb dX11_demandedNow_172 hl (k := 1) rfl (nI_inc _) (by decide) rfl (fun ls hl => ?_)
                      refine lv_goto (tgt := 121) hx hb dX11_demandedNow_175 (by decide) ?_
                      exact ih121 (k121 + 1) (by omega) _ (by subst ez121_9; first | rfl | (simp only [fl, c1, c2, d2, c4, d4, q5p, q6e.1, q6e.2.1, q6e.2.2, c9, d9, ne_eq, not_true_eq_false, not_false_eq_true, and_true, true_and, and_false, false_and, or_true, true_or, or_false, false_or, and_self, or_self, decide_eq_true_eq, ↓reduceIte]; done) | (simp only [fl, c1, c2, d2, c4, d4, q5p, q6e.1, q6e.2.1, q6e.2.2, c9, d9, ne_eq, not_true_eq_false, not_false_eq_true, and_true, true_and, and_false, false_and, or_true, true_or, or_false, false_or, and_self, or_self, decide_eq_true_eq, ↓reduceIte]; rfl) | (simp [fl, c1, c2, d2, c4, d4, q5p, q6e.1, q6e.2.1, q6e.2.2, c9, d9]; done) | (simp only [fl, c1, c2, d2, c4, d4, q5p, q6e.1, q6e.2.1, q6e.2.2, c9, d9, ne_eq, not_true_eq_false, not_false_eq_true, and_true, true_and, and_false, false_and, or_true, true_or, or_false, false_or, and_self, or_self, decide_eq_true_eq, ↓reduceIte])) ls (lv_sub hl [0, 2, 3, 4, 5, 6, 7, 8, 9, 10, 11] rfl)
                    · have d9 := Int32.not_le.mp c9
                      refine lv_iload hx hb dX11_demandedNow_158 (lv_at hl 2 rfl) ?_
                      refine lv_aload hx hb dX11_demandedNow_160 (lv_at hl 0 rfl) ?_
                      refine lv_iload hx hb dX11_demandedNow_162 (lv_at hl 11 rfl) ?_
                      refine rd_V (As := [.int (dmH (fM f (g 1) x y t) f i (g 1 + 1) (pM f g d w a b))]) (rest := [.int z121_9]) (v := some (.int (mAb t x (dmH (fM f (g 1) x y t) f i (g 1 + 1) (pM f g d w a b))))) S hG (c_X9_above l G H (o) x y t a b ho (dmH (fM f (g 1) x y t) f i (g 1 + 1) (pM f g d w a b))) gX11_demandedNow_X9_above rfl ⟨rfl, rfl⟩ nmX9_above ⟨Nat.le_of_ble_eq_true rfl, Nat.le_of_ble_eq_true rfl⟩ (rd_rcv hG.1 ho rfl) rfl hl.1 rfl (Nat.le_of_ble_eq_true rfl) ⟨Nat.zero_le _, Nat.zero_le _⟩ dX11_demandedNow_164 ?_
                      refine W.eq (g2 := F0 mZ 167 ls [.int (mAb t x (dmH (fM f (g 1) x y t) f i (g 1 + 1) (pM f g d w a b))), .int z121_9]) rfl ?_
                      refine rd_max S hl.1 m_max_86 ⟨Nat.le_of_ble_eq_true rfl, Nat.le_of_ble_eq_true rfl⟩ (Nat.le_of_ble_eq_true rfl) ⟨Nat.zero_le _, Nat.zero_le _⟩ dX11_demandedNow_167 ?_
                      refine W.eq (g2 := F0 mZ 170 ls [.int (imax z121_9 (mAb t x (dmH (fM f (g 1) x y t) f i (g 1 + 1) (pM f g d w a b))))]) rfl ?_
                      refine lv_topi (fun x10 ex10 => ?_)
                      refine lv_istore (lv' := [(9, .int x10), (11, .ref o), (10, .int (nI k121)), (0, .ref (B 0)), (1, .int (nI i)), (2, .int d), (3, .int w), (4, .ref o), (5, .ref (B (40 + i))), (6, .int (mKi f i)), (7, .int (mSl f i)), (8, .int (dmH (fM f (g 1) x y t) f i (g 1 + 1) (pM f g d w a b)))]) hx hb dX11_demandedNow_170 hl (by decide) rfl (fun ls hl => ?_)
                      refine lv_iinc (v := nI (k121 + 1)) (lv' := [(10, .int (nI (k121 + 1))), (9, .int x10), (11, .ref o), (0, .ref (B 0)), (1, .int (nI i)), (2, .int d), (3, .int w), (4, .ref o), (5, .ref (B (40 + i))), (6, .int (mKi f i)), (7, .int (mSl f i)), (8, .int (dmH (fM f (g 1) x y t) f i (g 1 + 1) (pM f g d w a b)))]) hx hb dX11_demandedNow_172 hl (k := 2) rfl (nI_inc _) (by decide) rfl (fun ls hl => ?_)
                      refine lv_goto (tgt := 121) hx hb dX11_demandedNow_175 (by decide) ?_
                      exact ih121 (k121 + 1) (by omega) _ (by subst ex10; subst ez121_9; first | rfl | (simp only [fl, c1, c2, d2, c4, d4, q5p, q6e.1, q6e.2.1, q6e.2.2, c9, d9, ne_eq, not_true_eq_false, not_false_eq_true, and_true, true_and, and_false, false_and, or_true, true_or, or_false, false_or, and_self, or_self, decide_eq_true_eq, ↓reduceIte]; done) | (simp only [fl, c1, c2, d2, c4, d4, q5p, q6e.1, q6e.2.1, q6e.2.2, c9, d9, ne_eq, not_true_eq_false, not_false_eq_true, and_true, true_and, and_false, false_and, or_true, true_or, or_false, false_or, and_self, or_self, decide_eq_true_eq, ↓reduceIte]; rfl) | (simp [fl, c1, c2, d2, c4, d4, q5p, q6e.1, q6e.2.1, q6e.2.2, c9, d9]; done) | (simp only [fl, c1, c2, d2, c4, d4, q5p, q6e.1, q6e.2.1, q6e.2.2, c9, d9, ne_eq, not_true_eq_false, not_false_eq_true, and_true, true_and, and_false, false_and, or_true, true_or, or_false, false_or, and_self, or_self, decide_eq_true_eq, ↓reduceIte])) ls (lv_sub hl [0, 1, 3, 4, 5, 6, 7, 8, 9, 10, 11] rfl)
                  · have q5p : ¬ pM f g d w a b k121 = true := by rw [q6N]; exact pM_of q5
                    refine rd_V (As := [.int (nI k121), .int d, .int w, .ref o]) (rest := []) (v := some (.null)) S hG (by rw [q6N]; exact c_X11_at_of l G B th mc cp f g H hM o x y t a b ho d w q5) gX11_demandedNow_X11_at rfl ⟨rfl, rfl⟩ nmX11_at ⟨Nat.le_of_ble_eq_true rfl, Nat.le_of_ble_eq_true rfl⟩ (rd_rcv hG.1 (mP_0 hM) rfl) rfl hl.1 rfl (Nat.le_of_ble_eq_true rfl) ⟨Nat.zero_le _, Nat.zero_le _⟩ dX11_demandedNow_140 ?_
                    refine W.eq (g2 := F0 mZ 143 ls [.null]) rfl ?_
                    refine lv_astoreN (lv' := [(11, .null), (10, .int (nI k121)), (9, .int z121_9), (0, .ref (B 0)), (1, .int (nI i)), (2, .int d), (3, .int w), (4, .ref o), (5, .ref (B (40 + i))), (6, .int (mKi f i)), (7, .int (mSl f i)), (8, .int (dmH (fM f (g 1) x y t) f i (g 1 + 1) (pM f g d w a b)))]) hx hb dX11_demandedNow_143 hl (by decide) rfl (fun ls hl => ?_)
                    refine lv_aloadN hx hb dX11_demandedNow_145 (lv_at hl 0 rfl) ?_
                    refine lv_ifnullN (tgt := 172) hx hb dX11_demandedNow_147 (by decide) ?_
                    refine lv_iinc (v := nI (k121 + 1)) (lv' := [(10, .int (nI (k121 + 1))), (11, .null), (9, .int z121_9), (0, .ref (B 0)), (1, .int (nI i)), (2, .int d), (3, .int w), (4, .ref o), (5, .ref (B (40 + i))), (6, .int (mKi f i)), (7, .int (mSl f i)), (8, .int (dmH (fM f (g 1) x y t) f i (g 1 + 1) (pM f g d w a b)))]) hx hb dX11_demandedNow_172 hl (k := 1) rfl (nI_inc _) (by decide) rfl (fun ls hl => ?_)
                    refine lv_goto (tgt := 121) hx hb dX11_demandedNow_175 (by decide) ?_
                    exact ih121 (k121 + 1) (by omega) _ (by subst ez121_9; first | rfl | (simp only [fl, c1, c2, d2, c4, d4, q5p, ne_eq, not_true_eq_false, not_false_eq_true, and_true, true_and, and_false, false_and, or_true, true_or, or_false, false_or, and_self, or_self, decide_eq_true_eq, ↓reduceIte]; done) | (simp only [fl, c1, c2, d2, c4, d4, q5p, ne_eq, not_true_eq_false, not_false_eq_true, and_true, true_and, and_false, false_and, or_true, true_or, or_false, false_or, and_self, or_self, decide_eq_true_eq, ↓reduceIte]; rfl) | (simp [fl, c1, c2, d2, c4, d4, q5p]; done) | (simp only [fl, c1, c2, d2, c4, d4, q5p, ne_eq, not_true_eq_false, not_false_eq_true, and_true, true_and, and_false, false_and, or_true, true_or, or_false, false_or, and_self, or_self, decide_eq_true_eq, ↓reduceIte])) ls (lv_sub hl [0, 2, 3, 4, 5, 6, 7, 8, 9, 10, 11] rfl)
          exact loop121 (g 1 + 1) 0 (by omega) _ (by first | rfl | first | rfl | (simp only [fl, c1, c2, d2, ne_eq, not_true_eq_false, not_false_eq_true, and_true, true_and, and_false, false_and, or_true, true_or, or_false, false_or, and_self, or_self, decide_eq_true_eq, ↓reduceIte]; done) | (simp only [fl, c1, c2, d2, ne_eq, not_true_eq_false, not_false_eq_true, and_true, true_and, and_false, false_and, or_true, true_or, or_false, false_or, and_self, or_self, decide_eq_true_eq, ↓reduceIte]; rfl) | (simp [fl, c1, c2, d2]; done) | (simp only [fl, c1, c2, d2, ne_eq, not_true_eq_false, not_false_eq_true, and_true, true_and, and_false, false_and, or_true, true_or, or_false, false_or, and_self, or_self, decide_eq_true_eq, ↓reduceIte])) ls (lv_sub hl [0, 1, 3, 4, 5, 6, 7, 8, 9, 10, 2] rfl)
        · exact absurd (nI_lt (by omega) (by omega)) c2
      | succ n52 ih52 =>
        intro k52 hk52 z52_8 ez52_8 ls hl
        refine lv_iload hx hb dX11_demandedNow_52 (lv_at hl 0 rfl) ?_
        refine lv_aload_n hx hb dX11_demandedNow_54 rfl (lv_at hl 2 rfl) ?_
        refine rd_get (own := RX11) (x := .ref (B 5)) S hG.1 iX11 (mP_0 hM) 4 rfl (by decide) w5 rfl dX11_demandedNow_55 ?_
        refine rd_V (As := []) (rest := [.int (nI k52)]) (v := some (.int (nI (g 1)))) S hG (c_Jx4a65c_size_8abf5 l G H (B 5) (eA G B cp 5 8) (mc 5) (nI (g 1)) (mP_5 hM)) gX11_demandedNow_Jx4a65c_size_8abf5 rfl ⟨rfl, rfl⟩ nmJx4a65c_size_8abf5 ⟨Nat.le_of_ble_eq_true rfl, Nat.le_of_ble_eq_true rfl⟩ (rd_rcv hG.1 (mP_5 hM) rfl) rfl hl.1 rfl (Nat.le_of_ble_eq_true rfl) ⟨Nat.zero_le _, Nat.zero_le _⟩ dX11_demandedNow_58 ?_
        refine W.eq (g2 := F0 mZ 61 ls [.int (nI (g 1)), .int (nI k52)]) rfl ?_
        refine lv_icmp_gt (tgt := 115) hx hb dX11_demandedNow_61 (by decide) (fun c11 => ?_) (fun c11 => ?_)
        · exact absurd c11 (nI_nlt (by omega) (by omega))
        · have d11 := Int32.not_lt.mp c11
          refine lv_aload_n hx hb dX11_demandedNow_64 rfl (lv_at hl 2 rfl) ?_
          refine lv_iload hx hb dX11_demandedNow_65 (lv_at hl 0 rfl) ?_
          refine lv_iload_n hx hb dX11_demandedNow_67 rfl (lv_at hl 4 rfl) ?_
          refine lv_iload_n hx hb dX11_demandedNow_68 rfl (lv_at hl 5 rfl) ?_
          refine lv_aload hx hb dX11_demandedNow_69 (lv_at hl 6 rfl) ?_
          by_cases q13 : k52 < g 1
          · have q13e : fM f (g 1) x y t 10 k52 = f 10 k52 ∧ fM f (g 1) x y t 11 k52 = f 11 k52 ∧ fM f (g 1) x y t 12 k52 = f 12 k52 := fM_lo q13
            rcases Classical.em (atq f g k52 d w) with q12 | q12
            · have q12p : pM f g d w a b k52 = true := pM_t q12
              refine rd_V (As := [.int (nI k52), .int d, .int w, .ref o]) (rest := []) (v := some (.ref (B (20 + k52)))) S hG (c_X11_at_st l G B th mc cp f g H hM o x y t a b ho k52 d w q12) gX11_demandedNow_X11_at rfl ⟨rfl, rfl⟩ nmX11_at ⟨Nat.le_of_ble_eq_true rfl, Nat.le_of_ble_eq_true rfl⟩ (rd_rcv hG.1 (mP_0 hM) rfl) rfl hl.1 rfl (Nat.le_of_ble_eq_true rfl) ⟨Nat.zero_le _, Nat.zero_le _⟩ dX11_demandedNow_71 ?_
              refine W.eq (g2 := F0 mZ 74 ls [.ref (B (20 + k52))]) rfl ?_
              refine lv_astore (lv' := [(10, .ref (B (20 + k52))), (9, .int (nI k52)), (8, .int z52_8), (0, .ref (B 0)), (1, .int (nI i)), (2, .int d), (3, .int w), (4, .ref o), (5, .ref (B (40 + i))), (6, .int (mKi f i)), (7, .int (mSl f i))]) hx hb dX11_demandedNow_74 hl (by decide) rfl (fun ls hl => ?_)
              refine lv_aload hx hb dX11_demandedNow_76 (lv_at hl 0 rfl) ?_
              refine lv_ifnull hx hb dX11_demandedNow_78 ?_
              refine lv_aload hx hb dX11_demandedNow_81 (lv_at hl 0 rfl) ?_
              refine rd_get (own := RX11) (x := .int (f 10 k52)) S hG.1 iX9 (mP_ob hM (i := k52) (by omega)) 0 rfl (by decide) w6 rfl dX11_demandedNow_83 ?_
              refine lv_if_lt (tgt := 109) hx hb dX11_demandedNow_86 (by decide) (fun c14 => ?_) (fun c14 => ?_)
              · have d14 := Int32.not_le.mpr c14
                refine lv_iinc (v := nI (k52 + 1)) (lv' := [(9, .int (nI (k52 + 1))), (10, .ref (B (20 + k52))), (8, .int z52_8), (0, .ref (B 0)), (1, .int (nI i)), (2, .int d), (3, .int w), (4, .ref o), (5, .ref (B (40 + i))), (6, .int (mKi f i)), (7, .int (mSl f i))]) hx hb dX11_demandedNow_109 hl (k := 1) rfl (nI_inc _) (by decide) rfl (fun ls hl => ?_)
                refine lv_goto (tgt := 52) hx hb dX11_demandedNow_112 (by decide) ?_
                exact ih52 (k52 + 1) (by omega) _ (by subst ez52_8; first | rfl | (simp only [fl, c1, c11, d11, q12p, q13e.1, q13e.2.1, q13e.2.2, c14, d14, ne_eq, not_true_eq_false, not_false_eq_true, and_true, true_and, and_false, false_and, or_true, true_or, or_false, false_or, and_self, or_self, decide_eq_true_eq, ↓reduceIte]; done) | (simp only [fl, c1, c11, d11, q12p, q13e.1, q13e.2.1, q13e.2.2, c14, d14, ne_eq, not_true_eq_false, not_false_eq_true, and_true, true_and, and_false, false_and, or_true, true_or, or_false, false_or, and_self, or_self, decide_eq_true_eq, ↓reduceIte]; rfl) | (simp [fl, c1, c11, d11, q12p, q13e.1, q13e.2.1, q13e.2.2, c14, d14]; done) | (simp only [fl, c1, c11, d11, q12p, q13e.1, q13e.2.1, q13e.2.2, c14, d14, ne_eq, not_true_eq_false, not_false_eq_true, and_true, true_and, and_false, false_and, or_true, true_or, or_false, false_or, and_self, or_self, decide_eq_true_eq, ↓reduceIte])) ls (lv_sub hl [0, 2, 3, 4, 5, 6, 7, 8, 9, 10] rfl)
              · have d14 := Int32.not_lt.mp c14
                refine lv_iload hx hb dX11_demandedNow_89 (lv_at hl 2 rfl) ?_
                refine lv_aload hx hb dX11_demandedNow_91 (lv_at hl 0 rfl) ?_
                refine rd_gets (own := RX11) (x := .ref (G.2.2.2 2)) S hHs hG.2.2.2.2.1.2.2 w7 dX11_demandedNow_93 ?_
                refine lv_iload hx hb dX11_demandedNow_96 (lv_at hl 9 rfl) ?_
                refine rd_tald S hG.2.2.2.2.2.2.2 (vp_ki hI (by omega)) dX11_demandedNow_98 ?_
                refine W.eq (g2 := F0 mZ 99 ls [.int (mMg f i), .ref (B (20 + k52)), .int z52_8]) rfl ?_
                refine lv_iload hx hb dX11_demandedNow_99 (lv_at hl 10 rfl) ?_
                refine rd_V (As := [.int (mMg f i), .int (mSl f i)]) (rest := [.int z52_8]) (v := some (.int (mNd (f 10 k52) (f 11 k52) (f 12 k52) (mMg f i) (mSl f i)))) S hG (c_X9_needs l G H (B (20 + k52)) (f 10 k52) (f 11 k52) (f 12 k52) (f 13 k52) (f 14 k52) (mP_ob hM (i := k52) (by omega)) (mMg f i) (mSl f i) (by assumption)) gX11_demandedNow_X9_needs rfl ⟨rfl, rfl⟩ nmX9_needs ⟨Nat.le_of_ble_eq_true rfl, Nat.le_of_ble_eq_true rfl⟩ (rd_rcv hG.1 (mP_ob hM (i := k52) (by omega)) rfl) rfl hl.1 rfl (Nat.le_of_ble_eq_true rfl) ⟨Nat.zero_le _, Nat.zero_le _⟩ dX11_demandedNow_101 ?_
                refine W.eq (g2 := F0 mZ 104 ls [.int (mNd (f 10 k52) (f 11 k52) (f 12 k52) (mMg f i) (mSl f i)), .int z52_8]) rfl ?_
                refine rd_max S hl.1 m_max_86 ⟨Nat.le_of_ble_eq_true rfl, Nat.le_of_ble_eq_true rfl⟩ (Nat.le_of_ble_eq_true rfl) ⟨Nat.zero_le _, Nat.zero_le _⟩ dX11_demandedNow_104 ?_
                refine W.eq (g2 := F0 mZ 107 ls [.int (imax z52_8 (mNd (f 10 k52) (f 11 k52) (f 12 k52) (mMg f i) (mSl f i)))]) rfl ?_
                refine lv_topi (fun x15 ex15 => ?_)
                refine lv_istore (lv' := [(8, .int x15), (10, .ref (B (20 + k52))), (9, .int (nI k52)), (0, .ref (B 0)), (1, .int (nI i)), (2, .int d), (3, .int w), (4, .ref o), (5, .ref (B (40 + i))), (6, .int (mKi f i)), (7, .int (mSl f i))]) hx hb dX11_demandedNow_107 hl (by decide) rfl (fun ls hl => ?_)
                refine lv_iinc (v := nI (k52 + 1)) (lv' := [(9, .int (nI (k52 + 1))), (8, .int x15), (10, .ref (B (20 + k52))), (0, .ref (B 0)), (1, .int (nI i)), (2, .int d), (3, .int w), (4, .ref o), (5, .ref (B (40 + i))), (6, .int (mKi f i)), (7, .int (mSl f i))]) hx hb dX11_demandedNow_109 hl (k := 2) rfl (nI_inc _) (by decide) rfl (fun ls hl => ?_)
                refine lv_goto (tgt := 52) hx hb dX11_demandedNow_112 (by decide) ?_
                exact ih52 (k52 + 1) (by omega) _ (by subst ex15; subst ez52_8; first | rfl | (simp only [fl, c1, c11, d11, q12p, q13e.1, q13e.2.1, q13e.2.2, c14, d14, ne_eq, not_true_eq_false, not_false_eq_true, and_true, true_and, and_false, false_and, or_true, true_or, or_false, false_or, and_self, or_self, decide_eq_true_eq, ↓reduceIte]; done) | (simp only [fl, c1, c11, d11, q12p, q13e.1, q13e.2.1, q13e.2.2, c14, d14, ne_eq, not_true_eq_false, not_false_eq_true, and_true, true_and, and_false, false_and, or_true, true_or, or_false, false_or, and_self, or_self, decide_eq_true_eq, ↓reduceIte]; rfl) | (simp [fl, c1, c11, d11, q12p, q13e.1, q13e.2.1, q13e.2.2, c14, d14]; done) | (simp only [fl, c1, c11, d11, q12p, q13e.1, q13e.2.1, q13e.2.2, c14, d14, ne_eq, not_true_eq_false, not_false_eq_true, and_true, true_and, and_false, false_and, or_true, true_or, or_false, false_or, and_self, or_self, decide_eq_true_eq, ↓reduceIte])) ls (lv_sub hl [0, 1, 3, 4, 5, 6, 7, 8, 9, 10] rfl)
            · have q12p : ¬ pM f g d w a b k52 = true := pM_f q13 q12
              refine rd_V (As := [.int (nI k52), .int d, .int w, .ref o]) (rest := []) (v := some (.null)) S hG (c_X11_at_sf l G B th mc cp f g H hM o x y t a b ho k52 d w q13 q12) gX11_demandedNow_X11_at rfl ⟨rfl, rfl⟩ nmX11_at ⟨Nat.le_of_ble_eq_true rfl, Nat.le_of_ble_eq_true rfl⟩ (rd_rcv hG.1 (mP_0 hM) rfl) rfl hl.1 rfl (Nat.le_of_ble_eq_true rfl) ⟨Nat.zero_le _, Nat.zero_le _⟩ dX11_demandedNow_71 ?_
              refine W.eq (g2 := F0 mZ 74 ls [.null]) rfl ?_
              refine lv_astoreN (lv' := [(10, .null), (9, .int (nI k52)), (8, .int z52_8), (0, .ref (B 0)), (1, .int (nI i)), (2, .int d), (3, .int w), (4, .ref o), (5, .ref (B (40 + i))), (6, .int (mKi f i)), (7, .int (mSl f i))]) hx hb dX11_demandedNow_74 hl (by decide) rfl (fun ls hl => ?_)
              refine lv_aloadN hx hb dX11_demandedNow_76 (lv_at hl 0 rfl) ?_
              refine lv_ifnullN (tgt := 109) hx hb dX11_demandedNow_78 (by decide) ?_
              refine lv_iinc (v := nI (k52 + 1)) (lv' := [(9, .int (nI (k52 + 1))), (10, .null), (8, .int z52_8), (0, .ref (B 0)), (1, .int (nI i)), (2, .int d), (3, .int w), (4, .ref o), (5, .ref (B (40 + i))), (6, .int (mKi f i)), (7, .int (mSl f i))]) hx hb dX11_demandedNow_109 hl (k := 1) rfl (nI_inc _) (by decide) rfl (fun ls hl => ?_)
              refine lv_goto (tgt := 52) hx hb dX11_demandedNow_112 (by decide) ?_
              exact ih52 (k52 + 1) (by omega) _ (by subst ez52_8; first | rfl | (simp only [fl, c1, c11, d11, q12p, ne_eq, not_true_eq_false, not_false_eq_true, and_true, true_and, and_false, false_and, or_true, true_or, or_false, false_or, and_self, or_self, decide_eq_true_eq, ↓reduceIte]; done) | (simp only [fl, c1, c11, d11, q12p, ne_eq, not_true_eq_false, not_false_eq_true, and_true, true_and, and_false, false_and, or_true, true_or, or_false, false_or, and_self, or_self, decide_eq_true_eq, ↓reduceIte]; rfl) | (simp [fl, c1, c11, d11, q12p]; done) | (simp only [fl, c1, c11, d11, q12p, ne_eq, not_true_eq_false, not_false_eq_true, and_true, true_and, and_false, false_and, or_true, true_or, or_false, false_or, and_self, or_self, decide_eq_true_eq, ↓reduceIte])) ls (lv_sub hl [0, 2, 3, 4, 5, 6, 7, 8, 9, 10] rfl)
          · have q13N : k52 = g 1 := by omega
            have q13e : fM f (g 1) x y t 10 k52 = x ∧ fM f (g 1) x y t 11 k52 = y ∧ fM f (g 1) x y t 12 k52 = t := by rw [q13N]; exact fM_hi f (g 1) x y t
            by_cases q12 : ¬ nI (g 1) = w ∧ thX a b d = true
            · have q12p : pM f g d w a b k52 = true := by rw [q13N]; exact pM_ot q12
              refine rd_V (As := [.int (nI k52), .int d, .int w, .ref o]) (rest := []) (v := some (.ref o)) S hG (by rw [q13N]; exact c_X11_at_ot l G B th mc cp f g H hM o x y t a b ho d w q12.1 q12.2) gX11_demandedNow_X11_at rfl ⟨rfl, rfl⟩ nmX11_at ⟨Nat.le_of_ble_eq_true rfl, Nat.le_of_ble_eq_true rfl⟩ (rd_rcv hG.1 (mP_0 hM) rfl) rfl hl.1 rfl (Nat.le_of_ble_eq_true rfl) ⟨Nat.zero_le _, Nat.zero_le _⟩ dX11_demandedNow_71 ?_
              refine W.eq (g2 := F0 mZ 74 ls [.ref o]) rfl ?_
              refine lv_astore (lv' := [(10, .ref o), (9, .int (nI k52)), (8, .int z52_8), (0, .ref (B 0)), (1, .int (nI i)), (2, .int d), (3, .int w), (4, .ref o), (5, .ref (B (40 + i))), (6, .int (mKi f i)), (7, .int (mSl f i))]) hx hb dX11_demandedNow_74 hl (by decide) rfl (fun ls hl => ?_)
              refine lv_aload hx hb dX11_demandedNow_76 (lv_at hl 0 rfl) ?_
              refine lv_ifnull hx hb dX11_demandedNow_78 ?_
              refine lv_aload hx hb dX11_demandedNow_81 (lv_at hl 0 rfl) ?_
              refine rd_get (own := RX11) (x := .int x) S hG.1 iX9 ho 0 rfl (by decide) w6 rfl dX11_demandedNow_83 ?_
              refine lv_if_lt (tgt := 109) hx hb dX11_demandedNow_86 (by decide) (fun c16 => ?_) (fun c16 => ?_)
              · have d16 := Int32.not_le.mpr c16
                refine lv_iinc (v := nI (k52 + 1)) (lv' := [(9, .int (nI (k52 + 1))), (10, .ref o), (8, .int z52_8), (0, .ref (B 0)), (1, .int (nI i)), (2, .int d), (3, .int w), (4, .ref o), (5, .ref (B (40 + i))), (6, .int (mKi f i)), (7, .int (mSl f i))]) hx hb dX11_demandedNow_109 hl (k := 1) rfl (nI_inc _) (by decide) rfl (fun ls hl => ?_)
                refine lv_goto (tgt := 52) hx hb dX11_demandedNow_112 (by decide) ?_
                exact ih52 (k52 + 1) (by omega) _ (by subst ez52_8; first | rfl | (simp only [fl, c1, c11, d11, q12p, q13e.1, q13e.2.1, q13e.2.2, c16, d16, ne_eq, not_true_eq_false, not_false_eq_true, and_true, true_and, and_false, false_and, or_true, true_or, or_false, false_or, and_self, or_self, decide_eq_true_eq, ↓reduceIte]; done) | (simp only [fl, c1, c11, d11, q12p, q13e.1, q13e.2.1, q13e.2.2, c16, d16, ne_eq, not_true_eq_false, not_false_eq_true, and_true, true_and, and_false, false_and, or_true, true_or, or_false, false_or, and_self, or_self, decide_eq_true_eq, ↓reduceIte]; rfl) | (simp [fl, c1, c11, d11, q12p, q13e.1, q13e.2.1, q13e.2.2, c16, d16]; done) | (simp only [fl, c1, c11, d11, q12p, q13e.1, q13e.2.1, q13e.2.2, c16, d16, ne_eq, not_true_eq_false, not_false_eq_true, and_true, true_and, and_false, false_and, or_true, true_or, or_false, false_or, and_self, or_self, decide_eq_true_eq, ↓reduceIte])) ls (lv_sub hl [0, 2, 3, 4, 5, 6, 7, 8, 9, 10] rfl)
              · have d16 := Int32.not_lt.mp c16
                refine lv_iload hx hb dX11_demandedNow_89 (lv_at hl 2 rfl) ?_
                refine lv_aload hx hb dX11_demandedNow_91 (lv_at hl 0 rfl) ?_
                refine rd_gets (own := RX11) (x := .ref (G.2.2.2 2)) S hHs hG.2.2.2.2.1.2.2 w7 dX11_demandedNow_93 ?_
                refine lv_iload hx hb dX11_demandedNow_96 (lv_at hl 9 rfl) ?_
                refine rd_tald S hG.2.2.2.2.2.2.2 (vp_ki hI (by omega)) dX11_demandedNow_98 ?_
                refine W.eq (g2 := F0 mZ 99 ls [.int (mMg f i), .ref o, .int z52_8]) rfl ?_
                refine lv_iload hx hb dX11_demandedNow_99 (lv_at hl 10 rfl) ?_
                refine rd_V (As := [.int (mMg f i), .int (mSl f i)]) (rest := [.int z52_8]) (v := some (.int (mNd x y t (mMg f i) (mSl f i)))) S hG (c_X9_needs l G H (o) x y t a b ho (mMg f i) (mSl f i) (by assumption)) gX11_demandedNow_X9_needs rfl ⟨rfl, rfl⟩ nmX9_needs ⟨Nat.le_of_ble_eq_true rfl, Nat.le_of_ble_eq_true rfl⟩ (rd_rcv hG.1 ho rfl) rfl hl.1 rfl (Nat.le_of_ble_eq_true rfl) ⟨Nat.zero_le _, Nat.zero_le _⟩ dX11_demandedNow_101 ?_
                refine W.eq (g2 := F0 mZ 104 ls [.int (mNd x y t (mMg f i) (mSl f i)), .int z52_8]) rfl ?_
                refine rd_max S hl.1 m_max_86 ⟨Nat.le_of_ble_eq_true rfl, Nat.le_of_ble_eq_true rfl⟩ (Nat.le_of_ble_eq_true rfl) ⟨Nat.zero_le _, Nat.zero_le _⟩ dX11_demandedNow_104 ?_
                refine W.eq (g2 := F0 mZ 107 ls [.int (imax z52_8 (mNd x y t (mMg f i) (mSl f i)))]) rfl ?_
                refine lv_topi (fun x17 ex17 => ?_)
                refine lv_istore (lv' := [(8, .int x17), (10, .ref o), (9, .int (nI k52)), (0, .ref (B 0)), (1, .int (nI i)), (2, .int d), (3, .int w), (4, .ref o), (5, .ref (B (40 + i))), (6, .int (mKi f i)), (7, .int (mSl f i))]) hx hb dX11_demandedNow_107 hl (by decide) rfl (fun ls hl => ?_)
                refine lv_iinc (v := nI (k52 + 1)) (lv' := [(9, .int (nI (k52 + 1))), (8, .int x17), (10, .ref o), (0, .ref (B 0)), (1, .int (nI i)), (2, .int d), (3, .int w), (4, .ref o), (5, .ref (B (40 + i))), (6, .int (mKi f i)), (7, .int (mSl f i))]) hx hb dX11_demandedNow_109 hl (k := 2) rfl (nI_inc _) (by decide) rfl (fun ls hl => ?_)
                refine lv_goto (tgt := 52) hx hb dX11_demandedNow_112 (by decide) ?_
                exact ih52 (k52 + 1) (by omega) _ (by subst ex17; subst ez52_8; first | rfl | (simp only [fl, c1, c11, d11, q12p, q13e.1, q13e.2.1, q13e.2.2, c16, d16, ne_eq, not_true_eq_false, not_false_eq_true, and_true, true_and, and_false, false_and, or_true, true_or, or_false, false_or, and_self, or_self, decide_eq_true_eq, ↓reduceIte]; done) | (simp only [fl, c1, c11, d11, q12p, q13e.1, q13e.2.1, q13e.2.2, c16, d16, ne_eq, not_true_eq_false, not_false_eq_true, and_true, true_and, and_false, false_and, or_true, true_or, or_false, false_or, and_self, or_self, decide_eq_true_eq, ↓reduceIte]; rfl) | (simp [fl, c1, c11, d11, q12p, q13e.1, q13e.2.1, q13e.2.2, c16, d16]; done) | (simp only [fl, c1, c11, d11, q12p, q13e.1, q13e.2.1, q13e.2.2, c16, d16, ne_eq, not_true_eq_false, not_false_eq_true, and_true, true_and, and_false, false_and, or_true, true_or, or_false, false_or, and_self, or_self, decide_eq_true_eq, ↓reduceIte])) ls (lv_sub hl [0, 1, 3, 4, 5, 6, 7, 8, 9, 10] rfl)
            · have q12p : ¬ pM f g d w a b k52 = true := by rw [q13N]; exact pM_of q12
              refine rd_V (As := [.int (nI k52), .int d, .int w, .ref o]) (rest := []) (v := some (.null)) S hG (by rw [q13N]; exact c_X11_at_of l G B th mc cp f g H hM o x y t a b ho d w q12) gX11_demandedNow_X11_at rfl ⟨rfl, rfl⟩ nmX11_at ⟨Nat.le_of_ble_eq_true rfl, Nat.le_of_ble_eq_true rfl⟩ (rd_rcv hG.1 (mP_0 hM) rfl) rfl hl.1 rfl (Nat.le_of_ble_eq_true rfl) ⟨Nat.zero_le _, Nat.zero_le _⟩ dX11_demandedNow_71 ?_
              refine W.eq (g2 := F0 mZ 74 ls [.null]) rfl ?_
              refine lv_astoreN (lv' := [(10, .null), (9, .int (nI k52)), (8, .int z52_8), (0, .ref (B 0)), (1, .int (nI i)), (2, .int d), (3, .int w), (4, .ref o), (5, .ref (B (40 + i))), (6, .int (mKi f i)), (7, .int (mSl f i))]) hx hb dX11_demandedNow_74 hl (by decide) rfl (fun ls hl => ?_)
              refine lv_aloadN hx hb dX11_demandedNow_76 (lv_at hl 0 rfl) ?_
              refine lv_ifnullN (tgt := 109) hx hb dX11_demandedNow_78 (by decide) ?_
              refine lv_iinc (v := nI (k52 + 1)) (lv' := [(9, .int (nI (k52 + 1))), (10, .null), (8, .int z52_8), (0, .ref (B 0)), (1, .int (nI i)), (2, .int d), (3, .int w), (4, .ref o), (5, .ref (B (40 + i))), (6, .int (mKi f i)), (7, .int (mSl f i))]) hx hb dX11_demandedNow_109 hl (k := 1) rfl (nI_inc _) (by decide) rfl (fun ls hl => ?_)
              refine lv_goto (tgt := 52) hx hb dX11_demandedNow_112 (by decide) ?_
              exact ih52 (k52 + 1) (by omega) _ (by subst ez52_8; first | rfl | (simp only [fl, c1, c11, d11, q12p, ne_eq, not_true_eq_false, not_false_eq_true, and_true, true_and, and_false, false_and, or_true, true_or, or_false, false_or, and_self, or_self, decide_eq_true_eq, ↓reduceIte]; done) | (simp only [fl, c1, c11, d11, q12p, ne_eq, not_true_eq_false, not_false_eq_true, and_true, true_and, and_false, false_and, or_true, true_or, or_false, false_or, and_self, or_self, decide_eq_true_eq, ↓reduceIte]; rfl) | (simp [fl, c1, c11, d11, q12p]; done) | (simp only [fl, c1, c11, d11, q12p, ne_eq, not_true_eq_false, not_false_eq_true, and_true, true_and, and_false, false_and, or_true, true_or, or_false, false_or, and_self, or_self, decide_eq_true_eq, ↓reduceIte])) ls (lv_sub hl [0, 2, 3, 4, 5, 6, 7, 8, 9, 10] rfl)
    exact loop52 (g 1 + 1) 0 (by omega) _ (by first | rfl | first | rfl | (simp only [fl, c1, ne_eq, not_true_eq_false, not_false_eq_true, and_true, true_and, and_false, false_and, or_true, true_or, or_false, false_or, and_self, or_self, decide_eq_true_eq, ↓reduceIte]; done) | (simp only [fl, c1, ne_eq, not_true_eq_false, not_false_eq_true, and_true, true_and, and_false, false_and, or_true, true_or, or_false, false_or, and_self, or_self, decide_eq_true_eq, ↓reduceIte]; rfl) | (simp [fl, c1]; done) | (simp only [fl, c1, ne_eq, not_true_eq_false, not_false_eq_true, and_true, true_and, and_false, false_and, or_true, true_or, or_false, false_or, and_self, or_self, decide_eq_true_eq, ↓reduceIte])) ls (lv_sub hl [0, 1, 5, 6, 7, 8, 9, 4, 3, 2] rfl)
  · refine lv_aload hx hb dX11_demandedNow_30 (lv_at hl 1 rfl) ?_
    refine rd_get (own := RX11) (x := .int (f 18 i)) S hG.1 iX10 (mP_pr hM (i := i) (by omega)) 1 rfl (by decide) w8 rfl dX11_demandedNow_32 ?_
    refine lv_goto (tgt := 39) hx hb dX11_demandedNow_35 (by decide) ?_
    refine W.eq (g2 := F0 mZ 39 ls [.int (mSl f i)]) (congrArg (fun z => F0 mZ 39 ls [Value.int z]) (if_pos c1).symm) ?_
    refine lv_istore (lv' := [(7, .int (mSl f i)), (6, .int (mKi f i)), (5, .ref (B (40 + i))), (0, .ref (B 0)), (1, .int (nI i)), (2, .int d), (3, .int w), (4, .ref o)]) hx hb dX11_demandedNow_39 hl (by decide) rfl (fun ls hl => ?_)
    refine rd_gets (own := RX11) (x := .ref (G.2.2.2 1)) S hHs hG.2.2.2.2.1.2.1 w4 dX11_demandedNow_41 ?_
    refine lv_iload hx hb dX11_demandedNow_44 (lv_at hl 1 rfl) ?_
    refine rd_tald S hG.2.2.2.2.2.2.1 (vp_ki hI (by omega)) dX11_demandedNow_46 ?_
    refine W.eq (g2 := F0 mZ 47 ls [.int (bases (cnt (mKi f i)))]) rfl ?_
    refine lv_istore (lv' := [(8, .int (bases (cnt (mKi f i)))), (7, .int (mSl f i)), (6, .int (mKi f i)), (5, .ref (B (40 + i))), (0, .ref (B 0)), (1, .int (nI i)), (2, .int d), (3, .int w), (4, .ref o)]) hx hb dX11_demandedNow_47 hl (by decide) rfl (fun ls hl => ?_)
    refine lv_iconst (v := 0) hx hb dX11_demandedNow_49 (by decide) ?_
    refine lv_istore (lv' := [(9, .int 0), (8, .int (bases (cnt (mKi f i)))), (7, .int (mSl f i)), (6, .int (mKi f i)), (5, .ref (B (40 + i))), (0, .ref (B 0)), (1, .int (nI i)), (2, .int d), (3, .int w), (4, .ref o)]) hx hb dX11_demandedNow_50 hl (by decide) rfl (fun ls hl => ?_)
    have loop52 : ∀ (n52 k52 : Nat), k52 + n52 = g 1 + 1 → ∀ (z52_8 : Int32), z52_8 = fl k52 (fun j h => if pM f g d w a b j = true ∧ ¬ (fM f (g 1) x y t) 10 j < 0 then imax h (mNd ((fM f (g 1) x y t) 10 j) ((fM f (g 1) x y t) 11 j) ((fM f (g 1) x y t) 12 j) (mMg f i) (mSl f i)) else h) (bases (cnt (mKi f i))) → ∀ (ls : Array Slot), lv_has ls 12 [(9, .int (nI k52)), (8, .int z52_8), (0, .ref (B 0)), (1, .int (nI i)), (2, .int d), (3, .int w), (4, .ref o), (5, .ref (B (40 + i))), (6, .int (mKi f i)), (7, .int (mSl f i))] → W pZ l eZ ({ frames := 4, cells := 0, slots := 0, locals := 89 } : Room) sZ mZ ([.ref (B 0), .int (nI i), .int d, .int w, .ref o] : List Value).toArray bZ meZ cZ H [] 0 0 (rd_Q bZ H [.ref (B 0), .int (nI i), .int d, .int w, .ref o] sZ (some (.int (dmd (fM f (g 1) x y t) f i (g 1 + 1) (pM f g d w a b))))) (F0 mZ 52 ls []) := by
      intro n52
      induction n52 with
      | zero =>
        intro k52 hk52 z52_8 ez52_8 ls hl
        obtain rfl : k52 = g 1 + 1 := by omega
        refine lv_iload hx hb dX11_demandedNow_52 (lv_at hl 0 rfl) ?_
        refine lv_aload_n hx hb dX11_demandedNow_54 rfl (lv_at hl 2 rfl) ?_
        refine rd_get (own := RX11) (x := .ref (B 5)) S hG.1 iX11 (mP_0 hM) 4 rfl (by decide) w5 rfl dX11_demandedNow_55 ?_
        refine rd_V (As := []) (rest := [.int (nI (g 1 + 1))]) (v := some (.int (nI (g 1)))) S hG (c_Jx4a65c_size_8abf5 l G H (B 5) (eA G B cp 5 8) (mc 5) (nI (g 1)) (mP_5 hM)) gX11_demandedNow_Jx4a65c_size_8abf5 rfl ⟨rfl, rfl⟩ nmJx4a65c_size_8abf5 ⟨Nat.le_of_ble_eq_true rfl, Nat.le_of_ble_eq_true rfl⟩ (rd_rcv hG.1 (mP_5 hM) rfl) rfl hl.1 rfl (Nat.le_of_ble_eq_true rfl) ⟨Nat.zero_le _, Nat.zero_le _⟩ dX11_demandedNow_58 ?_
        refine W.eq (g2 := F0 mZ 61 ls [.int (nI (g 1)), .int (nI (g 1 + 1))]) rfl ?_
        refine lv_icmp_gt (tgt := 115) hx hb dX11_demandedNow_61 (by decide) (fun c18 => ?_) (fun c18 => ?_)
        · have d18 := Int32.not_le.mpr c18
          refine lv_iconst (v := 0) hx hb dX11_demandedNow_115 (by decide) ?_
          refine lv_istore (lv' := [(9, .int 0), (8, .int z52_8), (0, .ref (B 0)), (1, .int (nI i)), (2, .int d), (3, .int w), (4, .ref o), (5, .ref (B (40 + i))), (6, .int (mKi f i)), (7, .int (mSl f i))]) hx hb dX11_demandedNow_116 hl (by decide) rfl (fun ls hl => ?_)
          have ez_ : z52_8 = dmH (fM f (g 1) x y t) f i (g 1 + 1) (pM f g d w a b) := ez52_8
          rw [ez_] at hl
          refine lv_iconst (v := 0) hx hb dX11_demandedNow_118 (by decide) ?_
          refine lv_istore (lv' := [(10, .int 0), (9, .int 0), (8, .int (dmH (fM f (g 1) x y t) f i (g 1 + 1) (pM f g d w a b))), (0, .ref (B 0)), (1, .int (nI i)), (2, .int d), (3, .int w), (4, .ref o), (5, .ref (B (40 + i))), (6, .int (mKi f i)), (7, .int (mSl f i))]) hx hb dX11_demandedNow_119 hl (by decide) rfl (fun ls hl => ?_)
          have loop121 : ∀ (n121 k121 : Nat), k121 + n121 = g 1 + 1 → ∀ (z121_9 : Int32), z121_9 = fl k121 (fun j a9 => if pM f g d w a b j = true ∧ (fM f (g 1) x y t) 10 j < 0 then imax a9 (mAb ((fM f (g 1) x y t) 12 j) ((fM f (g 1) x y t) 10 j) (dmH (fM f (g 1) x y t) f i (g 1 + 1) (pM f g d w a b))) else a9) 0 → ∀ (ls : Array Slot), lv_has ls 12 [(10, .int (nI k121)), (9, .int z121_9), (0, .ref (B 0)), (1, .int (nI i)), (2, .int d), (3, .int w), (4, .ref o), (5, .ref (B (40 + i))), (6, .int (mKi f i)), (7, .int (mSl f i)), (8, .int (dmH (fM f (g 1) x y t) f i (g 1 + 1) (pM f g d w a b)))] → W pZ l eZ ({ frames := 4, cells := 0, slots := 0, locals := 89 } : Room) sZ mZ ([.ref (B 0), .int (nI i), .int d, .int w, .ref o] : List Value).toArray bZ meZ cZ H [] 0 0 (rd_Q bZ H [.ref (B 0), .int (nI i), .int d, .int w, .ref o] sZ (some (.int (dmd (fM f (g 1) x y t) f i (g 1 + 1) (pM f g d w a b))))) (F0 mZ 121 ls []) := by
            intro n121
            induction n121 with
            | zero =>
              intro k121 hk121 z121_9 ez121_9 ls hl
              obtain rfl : k121 = g 1 + 1 := by omega
              refine lv_iload hx hb dX11_demandedNow_121 (lv_at hl 0 rfl) ?_
              refine lv_aload_n hx hb dX11_demandedNow_123 rfl (lv_at hl 2 rfl) ?_
              refine rd_get (own := RX11) (x := .ref (B 5)) S hG.1 iX11 (mP_0 hM) 4 rfl (by decide) w5 rfl dX11_demandedNow_124 ?_
              refine rd_V (As := []) (rest := [.int (nI (g 1 + 1))]) (v := some (.int (nI (g 1)))) S hG (c_Jx4a65c_size_8abf5 l G H (B 5) (eA G B cp 5 8) (mc 5) (nI (g 1)) (mP_5 hM)) gX11_demandedNow_Jx4a65c_size_8abf5 rfl ⟨rfl, rfl⟩ nmJx4a65c_size_8abf5 ⟨Nat.le_of_ble_eq_true rfl, Nat.le_of_ble_eq_true rfl⟩ (rd_rcv hG.1 (mP_5 hM) rfl) rfl hl.1 rfl (Nat.le_of_ble_eq_true rfl) ⟨Nat.zero_le _, Nat.zero_le _⟩ dX11_demandedNow_127 ?_
              refine W.eq (g2 := F0 mZ 130 ls [.int (nI (g 1)), .int (nI (g 1 + 1))]) rfl ?_
              refine lv_icmp_gt (tgt := 178) hx hb dX11_demandedNow_130 (by decide) (fun c19 => ?_) (fun c19 => ?_)
              · have d19 := Int32.not_le.mpr c19
                refine lv_iload hx hb dX11_demandedNow_178 (lv_at hl 10 rfl) ?_
                refine lv_iload hx hb dX11_demandedNow_180 (lv_at hl 1 rfl) ?_
                refine lv_iadd hx hb dX11_demandedNow_182 ?_
                refine lv_bipush (v := 9) hx hb dX11_demandedNow_183 (by decide) ?_
                refine lv_iadd hx hb dX11_demandedNow_185 ?_
                refine lv_bipush (v := 10) hx hb dX11_demandedNow_186 (by decide) ?_
                refine lv_idiv hx hb dX11_demandedNow_188 (by decide) ?_
                refine lv_bipush (v := 10) hx hb dX11_demandedNow_189 (by decide) ?_
                refine lv_imul hx hb dX11_demandedNow_191 ?_
                exact rd_iret S hr hlk dX11_demandedNow_192 (congrArg (fun z => some (Value.int z)) (by subst ez121_9; rfl))
              · first | exact absurd c19 c18 | exact absurd c18 c19 | exact absurd (Int32.not_lt.mp c19) (Int32.not_le.mpr c18) | exact absurd (Int32.not_lt.mpr c19) (by simp only [Int32.not_lt]; exact c18)
            | succ n121 ih121 =>
              intro k121 hk121 z121_9 ez121_9 ls hl
              refine lv_iload hx hb dX11_demandedNow_121 (lv_at hl 0 rfl) ?_
              refine lv_aload_n hx hb dX11_demandedNow_123 rfl (lv_at hl 2 rfl) ?_
              refine rd_get (own := RX11) (x := .ref (B 5)) S hG.1 iX11 (mP_0 hM) 4 rfl (by decide) w5 rfl dX11_demandedNow_124 ?_
              refine rd_V (As := []) (rest := [.int (nI k121)]) (v := some (.int (nI (g 1)))) S hG (c_Jx4a65c_size_8abf5 l G H (B 5) (eA G B cp 5 8) (mc 5) (nI (g 1)) (mP_5 hM)) gX11_demandedNow_Jx4a65c_size_8abf5 rfl ⟨rfl, rfl⟩ nmJx4a65c_size_8abf5 ⟨Nat.le_of_ble_eq_true rfl, Nat.le_of_ble_eq_true rfl⟩ (rd_rcv hG.1 (mP_5 hM) rfl) rfl hl.1 rfl (Nat.le_of_ble_eq_true rfl) ⟨Nat.zero_le _, Nat.zero_le _⟩ dX11_demandedNow_127 ?_
              refine W.eq (g2 := F0 mZ 130 ls [.int (nI (g 1)), .int (nI k121)]) rfl ?_
              refine lv_icmp_gt (tgt := 178) hx hb dX11_demandedNow_130 (by decide) (fun c20 => ?_) (fun c20 => ?_)
              · exact absurd c20 (nI_nlt (by omega) (by omega))
              · have d20 := Int32.not_lt.mp c20
                refine lv_aload_n hx hb dX11_demandedNow_133 rfl (lv_at hl 2 rfl) ?_
                refine lv_iload hx hb dX11_demandedNow_134 (lv_at hl 0 rfl) ?_
                refine lv_iload_n hx hb dX11_demandedNow_136 rfl (lv_at hl 4 rfl) ?_
                refine lv_iload_n hx hb dX11_demandedNow_137 rfl (lv_at hl 5 rfl) ?_
                refine lv_aload hx hb dX11_demandedNow_138 (lv_at hl 6 rfl) ?_
                by_cases q22 : k121 < g 1
                · have q22e : fM f (g 1) x y t 10 k121 = f 10 k121 ∧ fM f (g 1) x y t 11 k121 = f 11 k121 ∧ fM f (g 1) x y t 12 k121 = f 12 k121 := fM_lo q22
                  rcases Classical.em (atq f g k121 d w) with q21 | q21
                  · have q21p : pM f g d w a b k121 = true := pM_t q21
                    refine rd_V (As := [.int (nI k121), .int d, .int w, .ref o]) (rest := []) (v := some (.ref (B (20 + k121)))) S hG (c_X11_at_st l G B th mc cp f g H hM o x y t a b ho k121 d w q21) gX11_demandedNow_X11_at rfl ⟨rfl, rfl⟩ nmX11_at ⟨Nat.le_of_ble_eq_true rfl, Nat.le_of_ble_eq_true rfl⟩ (rd_rcv hG.1 (mP_0 hM) rfl) rfl hl.1 rfl (Nat.le_of_ble_eq_true rfl) ⟨Nat.zero_le _, Nat.zero_le _⟩ dX11_demandedNow_140 ?_
                    refine W.eq (g2 := F0 mZ 143 ls [.ref (B (20 + k121))]) rfl ?_
                    refine lv_astore (lv' := [(11, .ref (B (20 + k121))), (10, .int (nI k121)), (9, .int z121_9), (0, .ref (B 0)), (1, .int (nI i)), (2, .int d), (3, .int w), (4, .ref o), (5, .ref (B (40 + i))), (6, .int (mKi f i)), (7, .int (mSl f i)), (8, .int (dmH (fM f (g 1) x y t) f i (g 1 + 1) (pM f g d w a b)))]) hx hb dX11_demandedNow_143 hl (by decide) rfl (fun ls hl => ?_)
                    refine lv_aload hx hb dX11_demandedNow_145 (lv_at hl 0 rfl) ?_
                    refine lv_ifnull hx hb dX11_demandedNow_147 ?_
                    refine lv_aload hx hb dX11_demandedNow_150 (lv_at hl 0 rfl) ?_
                    refine rd_get (own := RX11) (x := .int (f 10 k121)) S hG.1 iX9 (mP_ob hM (i := k121) (by omega)) 0 rfl (by decide) w6 rfl dX11_demandedNow_152 ?_
                    refine lv_if_ge (tgt := 172) hx hb dX11_demandedNow_155 (by decide) (fun c23 => ?_) (fun c23 => ?_)
                    · have d23 := Int32.not_lt.mpr c23
                      refine lv_iinc (v := nI (k121 + 1)) (lv' := [(10, .int (nI (k121 + 1))), (11, .ref (B (20 + k121))), (9, .int z121_9), (0, .ref (B 0)), (1, .int (nI i)), (2, .int d), (3, .int w), (4, .ref o), (5, .ref (B (40 + i))), (6, .int (mKi f i)), (7, .int (mSl f i)), (8, .int (dmH (fM f (g 1) x y t) f i (g 1 + 1) (pM f g d w a b)))]) hx hb dX11_demandedNow_172 hl (k := 1) rfl (nI_inc _) (by decide) rfl (fun ls hl => ?_)
                      refine lv_goto (tgt := 121) hx hb dX11_demandedNow_175 (by decide) ?_
                      exact ih121 (k121 + 1) (by omega) _ (by subst ez121_9; first | rfl | (simp only [fl, c1, c18, d18, c20, d20, q21p, q22e.1, q22e.2.1, q22e.2.2, c23, d23, ne_eq, not_true_eq_false, not_false_eq_true, and_true, true_and, and_false, false_and, or_true, true_or, or_false, false_or, and_self, or_self, decide_eq_true_eq, ↓reduceIte]; done) | (simp only [fl, c1, c18, d18, c20, d20, q21p, q22e.1, q22e.2.1, q22e.2.2, c23, d23, ne_eq, not_true_eq_false, not_false_eq_true, and_true, true_and, and_false, false_and, or_true, true_or, or_false, false_or, and_self, or_self, decide_eq_true_eq, ↓reduceIte]; rfl) | (simp [fl, c1, c18, d18, c20, d20, q21p, q22e.1, q22e.2.1, q22e.2.2, c23, d23]; done) | (simp only [fl, c1, c18, d18, c20, d20, q21p, q22e.1, q22e.2.1, q22e.2.2, c23, d23, ne_eq, not_true_eq_false, not_false_eq_true, and_true, true_and, and_false, false_and, or_true, true_or, or_false, false_or, and_self, or_self, decide_eq_true_eq, ↓reduceIte])) ls (lv_sub hl [0, 2, 3, 4, 5, 6, 7, 8, 9, 10, 11] rfl)
                    · have d23 := Int32.not_le.mp c23
                      refine lv_iload hx hb dX11_demandedNow_158 (lv_at hl 2 rfl) ?_
                      refine lv_aload hx hb dX11_demandedNow_160 (lv_at hl 0 rfl) ?_
                      refine lv_iload hx hb dX11_demandedNow_162 (lv_at hl 11 rfl) ?_
                      refine rd_V (As := [.int (dmH (fM f (g 1) x y t) f i (g 1 + 1) (pM f g d w a b))]) (rest := [.int z121_9]) (v := some (.int (mAb (f 12 k121) (f 10 k121) (dmH (fM f (g 1) x y t) f i (g 1 + 1) (pM f g d w a b))))) S hG (c_X9_above l G H (B (20 + k121)) (f 10 k121) (f 11 k121) (f 12 k121) (f 13 k121) (f 14 k121) (mP_ob hM (i := k121) (by omega)) (dmH (fM f (g 1) x y t) f i (g 1 + 1) (pM f g d w a b))) gX11_demandedNow_X9_above rfl ⟨rfl, rfl⟩ nmX9_above ⟨Nat.le_of_ble_eq_true rfl, Nat.le_of_ble_eq_true rfl⟩ (rd_rcv hG.1 (mP_ob hM (i := k121) (by omega)) rfl) rfl hl.1 rfl (Nat.le_of_ble_eq_true rfl) ⟨Nat.zero_le _, Nat.zero_le _⟩ dX11_demandedNow_164 ?_
                      refine W.eq (g2 := F0 mZ 167 ls [.int (mAb (f 12 k121) (f 10 k121) (dmH (fM f (g 1) x y t) f i (g 1 + 1) (pM f g d w a b))), .int z121_9]) rfl ?_
                      refine rd_max S hl.1 m_max_86 ⟨Nat.le_of_ble_eq_true rfl, Nat.le_of_ble_eq_true rfl⟩ (Nat.le_of_ble_eq_true rfl) ⟨Nat.zero_le _, Nat.zero_le _⟩ dX11_demandedNow_167 ?_
                      refine W.eq (g2 := F0 mZ 170 ls [.int (imax z121_9 (mAb (f 12 k121) (f 10 k121) (dmH (fM f (g 1) x y t) f i (g 1 + 1) (pM f g d w a b))))]) rfl ?_
                      refine lv_topi (fun x24 ex24 => ?_)
                      refine lv_istore (lv' := [(9, .int x24), (11, .ref (B (20 + k121))), (10, .int (nI k121)), (0, .ref (B 0)), (1, .int (nI i)), (2, .int d), (3, .int w), (4, .ref o), (5, .ref (B (40 + i))), (6, .int (mKi f i)), (7, .int (mSl f i)), (8, .int (dmH (fM f (g 1) x y t) f i (g 1 + 1) (pM f g d w a b)))]) hx hb dX11_demandedNow_170 hl (by decide) rfl (fun ls hl => ?_)
                      refine lv_iinc (v := nI (k121 + 1)) (lv' := [(10, .int (nI (k121 + 1))), (9, .int x24), (11, .ref (B (20 + k121))), (0, .ref (B 0)), (1, .int (nI i)), (2, .int d), (3, .int w), (4, .ref o), (5, .ref (B (40 + i))), (6, .int (mKi f i)), (7, .int (mSl f i)), (8, .int (dmH (fM f (g 1) x y t) f i (g 1 + 1) (pM f g d w a b)))]) hx hb dX11_demandedNow_172 hl (k := 2) rfl (nI_inc _) (by decide) rfl (fun ls hl => ?_)
                      refine lv_goto (tgt := 121) hx hb dX11_demandedNow_175 (by decide) ?_
                      exact ih121 (k121 + 1) (by omega) _ (by subst ex24; subst ez121_9; first | rfl | (simp only [fl, c1, c18, d18, c20, d20, q21p, q22e.1, q22e.2.1, q22e.2.2, c23, d23, ne_eq, not_true_eq_false, not_false_eq_true, and_true, true_and, and_false, false_and, or_true, true_or, or_false, false_or, and_self, or_self, decide_eq_true_eq, ↓reduceIte]; done) | (simp only [fl, c1, c18, d18, c20, d20, q21p, q22e.1, q22e.2.1, q22e.2.2, c23, d23, ne_eq, not_true_eq_false, not_false_eq_true, and_true, true_and, and_false, false_and, or_true, true_or, or_false, false_or, and_self, or_self, decide_eq_true_eq, ↓reduceIte]; rfl) | (simp [fl, c1, c18, d18, c20, d20, q21p, q22e.1, q22e.2.1, q22e.2.2, c23, d23]; done) | (simp only [fl, c1, c18, d18, c20, d20, q21p, q22e.1, q22e.2.1, q22e.2.2, c23, d23, ne_eq, not_true_eq_false, not_false_eq_true, and_true, true_and, and_false, false_and, or_true, true_or, or_false, false_or, and_self, or_self, decide_eq_true_eq, ↓reduceIte])) ls (lv_sub hl [0, 1, 3, 4, 5, 6, 7, 8, 9, 10, 11] rfl)
                  · have q21p : ¬ pM f g d w a b k121 = true := pM_f q22 q21
                    refine rd_V (As := [.int (nI k121), .int d, .int w, .ref o]) (rest := []) (v := some (.null)) S hG (c_X11_at_sf l G B th mc cp f g H hM o x y t a b ho k121 d w q22 q21) gX11_demandedNow_X11_at rfl ⟨rfl, rfl⟩ nmX11_at ⟨Nat.le_of_ble_eq_true rfl, Nat.le_of_ble_eq_true rfl⟩ (rd_rcv hG.1 (mP_0 hM) rfl) rfl hl.1 rfl (Nat.le_of_ble_eq_true rfl) ⟨Nat.zero_le _, Nat.zero_le _⟩ dX11_demandedNow_140 ?_
                    refine W.eq (g2 := F0 mZ 143 ls [.null]) rfl ?_
                    refine lv_astoreN (lv' := [(11, .null), (10, .int (nI k121)), (9, .int z121_9), (0, .ref (B 0)), (1, .int (nI i)), (2, .int d), (3, .int w), (4, .ref o), (5, .ref (B (40 + i))), (6, .int (mKi f i)), (7, .int (mSl f i)), (8, .int (dmH (fM f (g 1) x y t) f i (g 1 + 1) (pM f g d w a b)))]) hx hb dX11_demandedNow_143 hl (by decide) rfl (fun ls hl => ?_)
                    refine lv_aloadN hx hb dX11_demandedNow_145 (lv_at hl 0 rfl) ?_
                    refine lv_ifnullN (tgt := 172) hx hb dX11_demandedNow_147 (by decide) ?_
                    refine lv_iinc (v := nI (k121 + 1)) (lv' := [(10, .int (nI (k121 + 1))), (11, .null), (9, .int z121_9), (0, .ref (B 0)), (1, .int (nI i)), (2, .int d), (3, .int w), (4, .ref o), (5, .ref (B (40 + i))), (6, .int (mKi f i)), (7, .int (mSl f i)), (8, .int (dmH (fM f (g 1) x y t) f i (g 1 + 1) (pM f g d w a b)))]) hx hb dX11_demandedNow_172 hl (k := 1) rfl (nI_inc _) (by decide) rfl (fun ls hl => ?_)
                    refine lv_goto (tgt := 121) hx hb dX11_demandedNow_175 (by decide) ?_
                    exact ih121 (k121 + 1) (by omega) _ (by subst ez121_9; first | rfl | (simp only [fl, c1, c18, d18, c20, d20, q21p, ne_eq, not_true_eq_false, not_false_eq_true, and_true, true_and, and_false, false_and, or_true, true_or, or_false, false_or, and_self, or_self, decide_eq_true_eq, ↓reduceIte]; done) | (simp only [fl, c1, c18, d18, c20, d20, q21p, ne_eq, not_true_eq_false, not_false_eq_true, and_true, true_and, and_false, false_and, or_true, true_or, or_false, false_or, and_self, or_self, decide_eq_true_eq, ↓reduceIte]; rfl) | (simp [fl, c1, c18, d18, c20, d20, q21p]; done) | (simp only [fl, c1, c18, d18, c20, d20, q21p, ne_eq, not_true_eq_false, not_false_eq_true, and_true, true_and, and_false, false_and, or_true, true_or, or_false, false_or, and_self, or_self, decide_eq_true_eq, ↓reduceIte])) ls (lv_sub hl [0, 2, 3, 4, 5, 6, 7, 8, 9, 10, 11] rfl)
                · have q22N : k121 = g 1 := by omega
                  have q22e : fM f (g 1) x y t 10 k121 = x ∧ fM f (g 1) x y t 11 k121 = y ∧ fM f (g 1) x y t 12 k121 = t := by rw [q22N]; exact fM_hi f (g 1) x y t
                  by_cases q21 : ¬ nI (g 1) = w ∧ thX a b d = true
                  · have q21p : pM f g d w a b k121 = true := by rw [q22N]; exact pM_ot q21
                    refine rd_V (As := [.int (nI k121), .int d, .int w, .ref o]) (rest := []) (v := some (.ref o)) S hG (by rw [q22N]; exact c_X11_at_ot l G B th mc cp f g H hM o x y t a b ho d w q21.1 q21.2) gX11_demandedNow_X11_at rfl ⟨rfl, rfl⟩ nmX11_at ⟨Nat.le_of_ble_eq_true rfl, Nat.le_of_ble_eq_true rfl⟩ (rd_rcv hG.1 (mP_0 hM) rfl) rfl hl.1 rfl (Nat.le_of_ble_eq_true rfl) ⟨Nat.zero_le _, Nat.zero_le _⟩ dX11_demandedNow_140 ?_
                    refine W.eq (g2 := F0 mZ 143 ls [.ref o]) rfl ?_
                    refine lv_astore (lv' := [(11, .ref o), (10, .int (nI k121)), (9, .int z121_9), (0, .ref (B 0)), (1, .int (nI i)), (2, .int d), (3, .int w), (4, .ref o), (5, .ref (B (40 + i))), (6, .int (mKi f i)), (7, .int (mSl f i)), (8, .int (dmH (fM f (g 1) x y t) f i (g 1 + 1) (pM f g d w a b)))]) hx hb dX11_demandedNow_143 hl (by decide) rfl (fun ls hl => ?_)
                    refine lv_aload hx hb dX11_demandedNow_145 (lv_at hl 0 rfl) ?_
                    refine lv_ifnull hx hb dX11_demandedNow_147 ?_
                    refine lv_aload hx hb dX11_demandedNow_150 (lv_at hl 0 rfl) ?_
                    refine rd_get (own := RX11) (x := .int x) S hG.1 iX9 ho 0 rfl (by decide) w6 rfl dX11_demandedNow_152 ?_
                    refine lv_if_ge (tgt := 172) hx hb dX11_demandedNow_155 (by decide) (fun c25 => ?_) (fun c25 => ?_)
                    · have d25 := Int32.not_lt.mpr c25
                      refine lv_iinc (v := nI (k121 + 1)) (lv' := [(10, .int (nI (k121 + 1))), (11, .ref o), (9, .int z121_9), (0, .ref (B 0)), (1, .int (nI i)), (2, .int d), (3, .int w), (4, .ref o), (5, .ref (B (40 + i))), (6, .int (mKi f i)), (7, .int (mSl f i)), (8, .int (dmH (fM f (g 1) x y t) f i (g 1 + 1) (pM f g d w a b)))]) hx hb dX11_demandedNow_172 hl (k := 1) rfl (nI_inc _) (by decide) rfl (fun ls hl => ?_)
                      refine lv_goto (tgt := 121) hx hb dX11_demandedNow_175 (by decide) ?_
                      exact ih121 (k121 + 1) (by omega) _ (by subst ez121_9; first | rfl | (simp only [fl, c1, c18, d18, c20, d20, q21p, q22e.1, q22e.2.1, q22e.2.2, c25, d25, ne_eq, not_true_eq_false, not_false_eq_true, and_true, true_and, and_false, false_and, or_true, true_or, or_false, false_or, and_self, or_self, decide_eq_true_eq, ↓reduceIte]; done) | (simp only [fl, c1, c18, d18, c20, d20, q21p, q22e.1, q22e.2.1, q22e.2.2, c25, d25, ne_eq, not_true_eq_false, not_false_eq_true, and_true, true_and, and_false, false_and, or_true, true_or, or_false, false_or, and_self, or_self, decide_eq_true_eq, ↓reduceIte]; rfl) | (simp [fl, c1, c18, d18, c20, d20, q21p, q22e.1, q22e.2.1, q22e.2.2, c25, d25]; done) | (simp only [fl, c1, c18, d18, c20, d20, q21p, q22e.1, q22e.2.1, q22e.2.2, c25, d25, ne_eq, not_true_eq_false, not_false_eq_true, and_true, true_and, and_false, false_and, or_true, true_or, or_false, false_or, and_self, or_self, decide_eq_true_eq, ↓reduceIte])) ls (lv_sub hl [0, 2, 3, 4, 5, 6, 7, 8, 9, 10, 11] rfl)
                    · have d25 := Int32.not_le.mp c25
                      refine lv_iload hx hb dX11_demandedNow_158 (lv_at hl 2 rfl) ?_
                      refine lv_aload hx hb dX11_demandedNow_160 (lv_at hl 0 rfl) ?_
                      refine lv_iload hx hb dX11_demandedNow_162 (lv_at hl 11 rfl) ?_
                      refine rd_V (As := [.int (dmH (fM f (g 1) x y t) f i (g 1 + 1) (pM f g d w a b))]) (rest := [.int z121_9]) (v := some (.int (mAb t x (dmH (fM f (g 1) x y t) f i (g 1 + 1) (pM f g d w a b))))) S hG (c_X9_above l G H (o) x y t a b ho (dmH (fM f (g 1) x y t) f i (g 1 + 1) (pM f g d w a b))) gX11_demandedNow_X9_above rfl ⟨rfl, rfl⟩ nmX9_above ⟨Nat.le_of_ble_eq_true rfl, Nat.le_of_ble_eq_true rfl⟩ (rd_rcv hG.1 ho rfl) rfl hl.1 rfl (Nat.le_of_ble_eq_true rfl) ⟨Nat.zero_le _, Nat.zero_le _⟩ dX11_demandedNow_164 ?_
                      refine W.eq (g2 := F0 mZ 167 ls [.int (mAb t x (dmH (fM f (g 1) x y t) f i (g 1 + 1) (pM f g d w a b))), .int z121_9]) rfl ?_
                      refine rd_max S hl.1 m_max_86 ⟨Nat.le_of_ble_eq_true rfl, Nat.le_of_ble_eq_true rfl⟩ (Nat.le_of_ble_eq_true rfl) ⟨Nat.zero_le _, Nat.zero_le _⟩ dX11_demandedNow_167 ?_
                      refine W.eq (g2 := F0 mZ 170 ls [.int (imax z121_9 (mAb t x (dmH (fM f (g 1) x y t) f i (g 1 + 1) (pM f g d w a b))))]) rfl ?_
                      refine lv_topi (fun x26 ex26 => ?_)
                      refine lv_istore (lv' := [(9, .int x26), (11, .ref o), (10, .int (nI k121)), (0, .ref (B 0)), (1, .int (nI i)), (2, .int d), (3, .int w), (4, .ref o), (5, .ref (B (40 + i))), (6, .int (mKi f i)), (7, .int (mSl f i)), (8, .int (dmH (fM f (g 1) x y t) f i (g 1 + 1) (pM f g d w a b)))]) hx hb dX11_demandedNow_170 hl (by decide) rfl (fun ls hl => ?_)
                      refine lv_iinc (v := nI (k121 + 1)) (lv' := [(10, .int (nI (k121 + 1))), (9, .int x26), (11, .ref o), (0, .ref (B 0)), (1, .int (nI i)), (2, .int d), (3, .int w), (4, .ref o), (5, .ref (B (40 + i))), (6, .int (mKi f i)), (7, .int (mSl f i)), (8, .int (dmH (fM f (g 1) x y t) f i (g 1 + 1) (pM f g d w a b)))]) hx hb dX11_demandedNow_172 hl (k := 2) rfl (nI_inc _) (by decide) rfl (fun ls hl => ?_)
                      refine lv_goto (tgt := 121) hx hb dX11_demandedNow_175 (by decide) ?_
                      exact ih121 (k121 + 1) (by omega) _ (by subst ex26; subst ez121_9; first | rfl | (simp only [fl, c1, c18, d18, c20, d20, q21p, q22e.1, q22e.2.1, q22e.2.2, c25, d25, ne_eq, not_true_eq_false, not_false_eq_true, and_true, true_and, and_false, false_and, or_true, true_or, or_false, false_or, and_self, or_self, decide_eq_true_eq, ↓reduceIte]; done) | (simp only [fl, c1, c18, d18, c20, d20, q21p, q22e.1, q22e.2.1, q22e.2.2, c25, d25, ne_eq, not_true_eq_false, not_false_eq_true, and_true, true_and, and_false, false_and, or_true, true_or, or_false, false_or, and_self, or_self, decide_eq_true_eq, ↓reduceIte]; rfl) | (simp [fl, c1, c18, d18, c20, d20, q21p, q22e.1, q22e.2.1, q22e.2.2, c25, d25]; done) | (simp only [fl, c1, c18, d18, c20, d20, q21p, q22e.1, q22e.2.1, q22e.2.2, c25, d25, ne_eq, not_true_eq_false, not_false_eq_true, and_true, true_and, and_false, false_and, or_true, true_or, or_false, false_or, and_self, or_self, decide_eq_true_eq, ↓reduceIte])) ls (lv_sub hl [0, 1, 3, 4, 5, 6, 7, 8, 9, 10, 11] rfl)
                  · have q21p : ¬ pM f g d w a b k121 = true := by rw [q22N]; exact pM_of q21
                    refine rd_V (As := [.int (nI k121), .int d, .int w, .ref o]) (rest := []) (v := some (.null)) S hG (by rw [q22N]; exact c_X11_at_of l G B th mc cp f g H hM o x y t a b ho d w q21) gX11_demandedNow_X11_at rfl ⟨rfl, rfl⟩ nmX11_at ⟨Nat.le_of_ble_eq_true rfl, Nat.le_of_ble_eq_true rfl⟩ (rd_rcv hG.1 (mP_0 hM) rfl) rfl hl.1 rfl (Nat.le_of_ble_eq_true rfl) ⟨Nat.zero_le _, Nat.zero_le _⟩ dX11_demandedNow_140 ?_
                    refine W.eq (g2 := F0 mZ 143 ls [.null]) rfl ?_
                    refine lv_astoreN (lv' := [(11, .null), (10, .int (nI k121)), (9, .int z121_9), (0, .ref (B 0)), (1, .int (nI i)), (2, .int d), (3, .int w), (4, .ref o), (5, .ref (B (40 + i))), (6, .int (mKi f i)), (7, .int (mSl f i)), (8, .int (dmH (fM f (g 1) x y t) f i (g 1 + 1) (pM f g d w a b)))]) hx hb dX11_demandedNow_143 hl (by decide) rfl (fun ls hl => ?_)
                    refine lv_aloadN hx hb dX11_demandedNow_145 (lv_at hl 0 rfl) ?_
                    refine lv_ifnullN (tgt := 172) hx hb dX11_demandedNow_147 (by decide) ?_
                    refine lv_iinc (v := nI (k121 + 1)) (lv' := [(10, .int (nI (k121 + 1))), (11, .null), (9, .int z121_9), (0, .ref (B 0)), (1, .int (nI i)), (2, .int d), (3, .int w), (4, .ref o), (5, .ref (B (40 + i))), (6, .int (mKi f i)), (7, .int (mSl f i)), (8, .int (dmH (fM f (g 1) x y t) f i (g 1 + 1) (pM f g d w a b)))]) hx hb dX11_demandedNow_172 hl (k := 1) rfl (nI_inc _) (by decide) rfl (fun ls hl => ?_)
                    refine lv_goto (tgt := 121) hx hb dX11_demandedNow_175 (by decide) ?_
                    exact ih121 (k121 + 1) (by omega) _ (by subst ez121_9; first | rfl | (simp only [fl, c1, c18, d18, c20, d20, q21p, ne_eq, not_true_eq_false, not_false_eq_true, and_true, true_and, and_false, false_and, or_true, true_or, or_false, false_or, and_self, or_self, decide_eq_true_eq, ↓reduceIte]; done) | (simp only [fl, c1, c18, d18, c20, d20, q21p, ne_eq, not_true_eq_false, not_false_eq_true, and_true, true_and, and_false, false_and, or_true, true_or, or_false, false_or, and_self, or_self, decide_eq_true_eq, ↓reduceIte]; rfl) | (simp [fl, c1, c18, d18, c20, d20, q21p]; done) | (simp only [fl, c1, c18, d18, c20, d20, q21p, ne_eq, not_true_eq_false, not_false_eq_true, and_true, true_and, and_false, false_and, or_true, true_or, or_false, false_or, and_self, or_self, decide_eq_true_eq, ↓reduceIte])) ls (lv_sub hl [0, 2, 3, 4, 5, 6, 7, 8, 9, 10, 11] rfl)
          exact loop121 (g 1 + 1) 0 (by omega) _ (by first | rfl | first | rfl | (simp only [fl, c1, c18, d18, ne_eq, not_true_eq_false, not_false_eq_true, and_true, true_and, and_false, false_and, or_true, true_or, or_false, false_or, and_self, or_self, decide_eq_true_eq, ↓reduceIte]; done) | (simp only [fl, c1, c18, d18, ne_eq, not_true_eq_false, not_false_eq_true, and_true, true_and, and_false, false_and, or_true, true_or, or_false, false_or, and_self, or_self, decide_eq_true_eq, ↓reduceIte]; rfl) | (simp [fl, c1, c18, d18]; done) | (simp only [fl, c1, c18, d18, ne_eq, not_true_eq_false, not_false_eq_true, and_true, true_and, and_false, false_and, or_true, true_or, or_false, false_or, and_self, or_self, decide_eq_true_eq, ↓reduceIte])) ls (lv_sub hl [0, 1, 3, 4, 5, 6, 7, 8, 9, 10, 2] rfl)
        · exact absurd (nI_lt (by omega) (by omega)) c18
      | succ n52 ih52 =>
        intro k52 hk52 z52_8 ez52_8 ls hl
        refine lv_iload hx hb dX11_demandedNow_52 (lv_at hl 0 rfl) ?_
        refine lv_aload_n hx hb dX11_demandedNow_54 rfl (lv_at hl 2 rfl) ?_
        refine rd_get (own := RX11) (x := .ref (B 5)) S hG.1 iX11 (mP_0 hM) 4 rfl (by decide) w5 rfl dX11_demandedNow_55 ?_
        refine rd_V (As := []) (rest := [.int (nI k52)]) (v := some (.int (nI (g 1)))) S hG (c_Jx4a65c_size_8abf5 l G H (B 5) (eA G B cp 5 8) (mc 5) (nI (g 1)) (mP_5 hM)) gX11_demandedNow_Jx4a65c_size_8abf5 rfl ⟨rfl, rfl⟩ nmJx4a65c_size_8abf5 ⟨Nat.le_of_ble_eq_true rfl, Nat.le_of_ble_eq_true rfl⟩ (rd_rcv hG.1 (mP_5 hM) rfl) rfl hl.1 rfl (Nat.le_of_ble_eq_true rfl) ⟨Nat.zero_le _, Nat.zero_le _⟩ dX11_demandedNow_58 ?_
        refine W.eq (g2 := F0 mZ 61 ls [.int (nI (g 1)), .int (nI k52)]) rfl ?_
        refine lv_icmp_gt (tgt := 115) hx hb dX11_demandedNow_61 (by decide) (fun c27 => ?_) (fun c27 => ?_)
        · exact absurd c27 (nI_nlt (by omega) (by omega))
        · have d27 := Int32.not_lt.mp c27
          refine lv_aload_n hx hb dX11_demandedNow_64 rfl (lv_at hl 2 rfl) ?_
          refine lv_iload hx hb dX11_demandedNow_65 (lv_at hl 0 rfl) ?_
          refine lv_iload_n hx hb dX11_demandedNow_67 rfl (lv_at hl 4 rfl) ?_
          refine lv_iload_n hx hb dX11_demandedNow_68 rfl (lv_at hl 5 rfl) ?_
          refine lv_aload hx hb dX11_demandedNow_69 (lv_at hl 6 rfl) ?_
          by_cases q29 : k52 < g 1
          · have q29e : fM f (g 1) x y t 10 k52 = f 10 k52 ∧ fM f (g 1) x y t 11 k52 = f 11 k52 ∧ fM f (g 1) x y t 12 k52 = f 12 k52 := fM_lo q29
            rcases Classical.em (atq f g k52 d w) with q28 | q28
            · have q28p : pM f g d w a b k52 = true := pM_t q28
              refine rd_V (As := [.int (nI k52), .int d, .int w, .ref o]) (rest := []) (v := some (.ref (B (20 + k52)))) S hG (c_X11_at_st l G B th mc cp f g H hM o x y t a b ho k52 d w q28) gX11_demandedNow_X11_at rfl ⟨rfl, rfl⟩ nmX11_at ⟨Nat.le_of_ble_eq_true rfl, Nat.le_of_ble_eq_true rfl⟩ (rd_rcv hG.1 (mP_0 hM) rfl) rfl hl.1 rfl (Nat.le_of_ble_eq_true rfl) ⟨Nat.zero_le _, Nat.zero_le _⟩ dX11_demandedNow_71 ?_
              refine W.eq (g2 := F0 mZ 74 ls [.ref (B (20 + k52))]) rfl ?_
              refine lv_astore (lv' := [(10, .ref (B (20 + k52))), (9, .int (nI k52)), (8, .int z52_8), (0, .ref (B 0)), (1, .int (nI i)), (2, .int d), (3, .int w), (4, .ref o), (5, .ref (B (40 + i))), (6, .int (mKi f i)), (7, .int (mSl f i))]) hx hb dX11_demandedNow_74 hl (by decide) rfl (fun ls hl => ?_)
              refine lv_aload hx hb dX11_demandedNow_76 (lv_at hl 0 rfl) ?_
              refine lv_ifnull hx hb dX11_demandedNow_78 ?_
              refine lv_aload hx hb dX11_demandedNow_81 (lv_at hl 0 rfl) ?_
              refine rd_get (own := RX11) (x := .int (f 10 k52)) S hG.1 iX9 (mP_ob hM (i := k52) (by omega)) 0 rfl (by decide) w6 rfl dX11_demandedNow_83 ?_
              refine lv_if_lt (tgt := 109) hx hb dX11_demandedNow_86 (by decide) (fun c30 => ?_) (fun c30 => ?_)
              · have d30 := Int32.not_le.mpr c30
                refine lv_iinc (v := nI (k52 + 1)) (lv' := [(9, .int (nI (k52 + 1))), (10, .ref (B (20 + k52))), (8, .int z52_8), (0, .ref (B 0)), (1, .int (nI i)), (2, .int d), (3, .int w), (4, .ref o), (5, .ref (B (40 + i))), (6, .int (mKi f i)), (7, .int (mSl f i))]) hx hb dX11_demandedNow_109 hl (k := 1) rfl (nI_inc _) (by decide) rfl (fun ls hl => ?_)
                refine lv_goto (tgt := 52) hx hb dX11_demandedNow_112 (by decide) ?_
                exact ih52 (k52 + 1) (by omega) _ (by subst ez52_8; first | rfl | (simp only [fl, c1, c27, d27, q28p, q29e.1, q29e.2.1, q29e.2.2, c30, d30, ne_eq, not_true_eq_false, not_false_eq_true, and_true, true_and, and_false, false_and, or_true, true_or, or_false, false_or, and_self, or_self, decide_eq_true_eq, ↓reduceIte]; done) | (simp only [fl, c1, c27, d27, q28p, q29e.1, q29e.2.1, q29e.2.2, c30, d30, ne_eq, not_true_eq_false, not_false_eq_true, and_true, true_and, and_false, false_and, or_true, true_or, or_false, false_or, and_self, or_self, decide_eq_true_eq, ↓reduceIte]; rfl) | (simp [fl, c1, c27, d27, q28p, q29e.1, q29e.2.1, q29e.2.2, c30, d30]; done) | (simp only [fl, c1, c27, d27, q28p, q29e.1, q29e.2.1, q29e.2.2, c30, d30, ne_eq, not_true_eq_false, not_false_eq_true, and_true, true_and, and_false, false_and, or_true, true_or, or_false, false_or, and_self, or_self, decide_eq_true_eq, ↓reduceIte])) ls (lv_sub hl [0, 2, 3, 4, 5, 6, 7, 8, 9, 10] rfl)
              · have d30 := Int32.not_lt.mp c30
                refine lv_iload hx hb dX11_demandedNow_89 (lv_at hl 2 rfl) ?_
                refine lv_aload hx hb dX11_demandedNow_91 (lv_at hl 0 rfl) ?_
                refine rd_gets (own := RX11) (x := .ref (G.2.2.2 2)) S hHs hG.2.2.2.2.1.2.2 w7 dX11_demandedNow_93 ?_
                refine lv_iload hx hb dX11_demandedNow_96 (lv_at hl 9 rfl) ?_
                refine rd_tald S hG.2.2.2.2.2.2.2 (vp_ki hI (by omega)) dX11_demandedNow_98 ?_
                refine W.eq (g2 := F0 mZ 99 ls [.int (mMg f i), .ref (B (20 + k52)), .int z52_8]) rfl ?_
                refine lv_iload hx hb dX11_demandedNow_99 (lv_at hl 10 rfl) ?_
                refine rd_V (As := [.int (mMg f i), .int (mSl f i)]) (rest := [.int z52_8]) (v := some (.int (mNd (f 10 k52) (f 11 k52) (f 12 k52) (mMg f i) (mSl f i)))) S hG (c_X9_needs l G H (B (20 + k52)) (f 10 k52) (f 11 k52) (f 12 k52) (f 13 k52) (f 14 k52) (mP_ob hM (i := k52) (by omega)) (mMg f i) (mSl f i) (by assumption)) gX11_demandedNow_X9_needs rfl ⟨rfl, rfl⟩ nmX9_needs ⟨Nat.le_of_ble_eq_true rfl, Nat.le_of_ble_eq_true rfl⟩ (rd_rcv hG.1 (mP_ob hM (i := k52) (by omega)) rfl) rfl hl.1 rfl (Nat.le_of_ble_eq_true rfl) ⟨Nat.zero_le _, Nat.zero_le _⟩ dX11_demandedNow_101 ?_
                refine W.eq (g2 := F0 mZ 104 ls [.int (mNd (f 10 k52) (f 11 k52) (f 12 k52) (mMg f i) (mSl f i)), .int z52_8]) rfl ?_
                refine rd_max S hl.1 m_max_86 ⟨Nat.le_of_ble_eq_true rfl, Nat.le_of_ble_eq_true rfl⟩ (Nat.le_of_ble_eq_true rfl) ⟨Nat.zero_le _, Nat.zero_le _⟩ dX11_demandedNow_104 ?_
                refine W.eq (g2 := F0 mZ 107 ls [.int (imax z52_8 (mNd (f 10 k52) (f 11 k52) (f 12 k52) (mMg f i) (mSl f i)))]) rfl ?_
                refine lv_topi (fun x31 ex31 => ?_)
                refine lv_istore (lv' := [(8, .int x31), (10, .ref (B (20 + k52))), (9, .int (nI k52)), (0, .ref (B 0)), (1, .int (nI i)), (2, .int d), (3, .int w), (4, .ref o), (5, .ref (B (40 + i))), (6, .int (mKi f i)), (7, .int (mSl f i))]) hx hb dX11_demandedNow_107 hl (by decide) rfl (fun ls hl => ?_)
                refine lv_iinc (v := nI (k52 + 1)) (lv' := [(9, .int (nI (k52 + 1))), (8, .int x31), (10, .ref (B (20 + k52))), (0, .ref (B 0)), (1, .int (nI i)), (2, .int d), (3, .int w), (4, .ref o), (5, .ref (B (40 + i))), (6, .int (mKi f i)), (7, .int (mSl f i))]) hx hb dX11_demandedNow_109 hl (k := 2) rfl (nI_inc _) (by decide) rfl (fun ls hl => ?_)
                refine lv_goto (tgt := 52) hx hb dX11_demandedNow_112 (by decide) ?_
                exact ih52 (k52 + 1) (by omega) _ (by subst ex31; subst ez52_8; first | rfl | (simp only [fl, c1, c27, d27, q28p, q29e.1, q29e.2.1, q29e.2.2, c30, d30, ne_eq, not_true_eq_false, not_false_eq_true, and_true, true_and, and_false, false_and, or_true, true_or, or_false, false_or, and_self, or_self, decide_eq_true_eq, ↓reduceIte]; done) | (simp only [fl, c1, c27, d27, q28p, q29e.1, q29e.2.1, q29e.2.2, c30, d30, ne_eq, not_true_eq_false, not_false_eq_true, and_true, true_and, and_false, false_and, or_true, true_or, or_false, false_or, and_self, or_self, decide_eq_true_eq, ↓reduceIte]; rfl) | (simp [fl, c1, c27, d27, q28p, q29e.1, q29e.2.1, q29e.2.2, c30, d30]; done) | (simp only [fl, c1, c27, d27, q28p, q29e.1, q29e.2.1, q29e.2.2, c30, d30, ne_eq, not_true_eq_false, not_false_eq_true, and_true, true_and, and_false, false_and, or_true, true_or, or_false, false_or, and_self, or_self, decide_eq_true_eq, ↓reduceIte])) ls (lv_sub hl [0, 1, 3, 4, 5, 6, 7, 8, 9, 10] rfl)
            · have q28p : ¬ pM f g d w a b k52 = true := pM_f q29 q28
              refine rd_V (As := [.int (nI k52), .int d, .int w, .ref o]) (rest := []) (v := some (.null)) S hG (c_X11_at_sf l G B th mc cp f g H hM o x y t a b ho k52 d w q29 q28) gX11_demandedNow_X11_at rfl ⟨rfl, rfl⟩ nmX11_at ⟨Nat.le_of_ble_eq_true rfl, Nat.le_of_ble_eq_true rfl⟩ (rd_rcv hG.1 (mP_0 hM) rfl) rfl hl.1 rfl (Nat.le_of_ble_eq_true rfl) ⟨Nat.zero_le _, Nat.zero_le _⟩ dX11_demandedNow_71 ?_
              refine W.eq (g2 := F0 mZ 74 ls [.null]) rfl ?_
              refine lv_astoreN (lv' := [(10, .null), (9, .int (nI k52)), (8, .int z52_8), (0, .ref (B 0)), (1, .int (nI i)), (2, .int d), (3, .int w), (4, .ref o), (5, .ref (B (40 + i))), (6, .int (mKi f i)), (7, .int (mSl f i))]) hx hb dX11_demandedNow_74 hl (by decide) rfl (fun ls hl => ?_)
              refine lv_aloadN hx hb dX11_demandedNow_76 (lv_at hl 0 rfl) ?_
              refine lv_ifnullN (tgt := 109) hx hb dX11_demandedNow_78 (by decide) ?_
              refine lv_iinc (v := nI (k52 + 1)) (lv' := [(9, .int (nI (k52 + 1))), (10, .null), (8, .int z52_8), (0, .ref (B 0)), (1, .int (nI i)), (2, .int d), (3, .int w), (4, .ref o), (5, .ref (B (40 + i))), (6, .int (mKi f i)), (7, .int (mSl f i))]) hx hb dX11_demandedNow_109 hl (k := 1) rfl (nI_inc _) (by decide) rfl (fun ls hl => ?_)
              refine lv_goto (tgt := 52) hx hb dX11_demandedNow_112 (by decide) ?_
              exact ih52 (k52 + 1) (by omega) _ (by subst ez52_8; first | rfl | (simp only [fl, c1, c27, d27, q28p, ne_eq, not_true_eq_false, not_false_eq_true, and_true, true_and, and_false, false_and, or_true, true_or, or_false, false_or, and_self, or_self, decide_eq_true_eq, ↓reduceIte]; done) | (simp only [fl, c1, c27, d27, q28p, ne_eq, not_true_eq_false, not_false_eq_true, and_true, true_and, and_false, false_and, or_true, true_or, or_false, false_or, and_self, or_self, decide_eq_true_eq, ↓reduceIte]; rfl) | (simp [fl, c1, c27, d27, q28p]; done) | (simp only [fl, c1, c27, d27, q28p, ne_eq, not_true_eq_false, not_false_eq_true, and_true, true_and, and_false, false_and, or_true, true_or, or_false, false_or, and_self, or_self, decide_eq_true_eq, ↓reduceIte])) ls (lv_sub hl [0, 2, 3, 4, 5, 6, 7, 8, 9, 10] rfl)
          · have q29N : k52 = g 1 := by omega
            have q29e : fM f (g 1) x y t 10 k52 = x ∧ fM f (g 1) x y t 11 k52 = y ∧ fM f (g 1) x y t 12 k52 = t := by rw [q29N]; exact fM_hi f (g 1) x y t
            by_cases q28 : ¬ nI (g 1) = w ∧ thX a b d = true
            · have q28p : pM f g d w a b k52 = true := by rw [q29N]; exact pM_ot q28
              refine rd_V (As := [.int (nI k52), .int d, .int w, .ref o]) (rest := []) (v := some (.ref o)) S hG (by rw [q29N]; exact c_X11_at_ot l G B th mc cp f g H hM o x y t a b ho d w q28.1 q28.2) gX11_demandedNow_X11_at rfl ⟨rfl, rfl⟩ nmX11_at ⟨Nat.le_of_ble_eq_true rfl, Nat.le_of_ble_eq_true rfl⟩ (rd_rcv hG.1 (mP_0 hM) rfl) rfl hl.1 rfl (Nat.le_of_ble_eq_true rfl) ⟨Nat.zero_le _, Nat.zero_le _⟩ dX11_demandedNow_71 ?_
              refine W.eq (g2 := F0 mZ 74 ls [.ref o]) rfl ?_
              refine lv_astore (lv' := [(10, .ref o), (9, .int (nI k52)), (8, .int z52_8), (0, .ref (B 0)), (1, .int (nI i)), (2, .int d), (3, .int w), (4, .ref o), (5, .ref (B (40 + i))), (6, .int (mKi f i)), (7, .int (mSl f i))]) hx hb dX11_demandedNow_74 hl (by decide) rfl (fun ls hl => ?_)
              refine lv_aload hx hb dX11_demandedNow_76 (lv_at hl 0 rfl) ?_
              refine lv_ifnull hx hb dX11_demandedNow_78 ?_
              refine lv_aload hx hb dX11_demandedNow_81 (lv_at hl 0 rfl) ?_
              refine rd_get (own := RX11) (x := .int x) S hG.1 iX9 ho 0 rfl (by decide) w6 rfl dX11_demandedNow_83 ?_
              refine lv_if_lt (tgt := 109) hx hb dX11_demandedNow_86 (by decide) (fun c32 => ?_) (fun c32 => ?_)
              · have d32 := Int32.not_le.mpr c32
                refine lv_iinc (v := nI (k52 + 1)) (lv' := [(9, .int (nI (k52 + 1))), (10, .ref o), (8, .int z52_8), (0, .ref (B 0)), (1, .int (nI i)), (2, .int d), (3, .int w), (4, .ref o), (5, .ref (B (40 + i))), (6, .int (mKi f i)), (7, .int (mSl f i))]) hx hb dX11_demandedNow_109 hl (k := 1) rfl (nI_inc _) (by decide) rfl (fun ls hl => ?_)
                refine lv_goto (tgt := 52) hx hb dX11_demandedNow_112 (by decide) ?_
                exact ih52 (k52 + 1) (by omega) _ (by subst ez52_8; first | rfl | (simp only [fl, c1, c27, d27, q28p, q29e.1, q29e.2.1, q29e.2.2, c32, d32, ne_eq, not_true_eq_false, not_false_eq_true, and_true, true_and, and_false, false_and, or_true, true_or, or_false, false_or, and_self, or_self, decide_eq_true_eq, ↓reduceIte]; done) | (simp only [fl, c1, c27, d27, q28p, q29e.1, q29e.2.1, q29e.2.2, c32, d32, ne_eq, not_true_eq_false, not_false_eq_true, and_true, true_and, and_false, false_and, or_true, true_or, or_false, false_or, and_self, or_self, decide_eq_true_eq, ↓reduceIte]; rfl) | (simp [fl, c1, c27, d27, q28p, q29e.1, q29e.2.1, q29e.2.2, c32, d32]; done) | (simp only [fl, c1, c27, d27, q28p, q29e.1, q29e.2.1, q29e.2.2, c32, d32, ne_eq, not_true_eq_false, not_false_eq_true, and_true, true_and, and_false, false_and, or_true, true_or, or_false, false_or, and_self, or_self, decide_eq_true_eq, ↓reduceIte])) ls (lv_sub hl [0, 2, 3, 4, 5, 6, 7, 8, 9, 10] rfl)
              · have d32 := Int32.not_lt.mp c32
                refine lv_iload hx hb dX11_demandedNow_89 (lv_at hl 2 rfl) ?_
                refine lv_aload hx hb dX11_demandedNow_91 (lv_at hl 0 rfl) ?_
                refine rd_gets (own := RX11) (x := .ref (G.2.2.2 2)) S hHs hG.2.2.2.2.1.2.2 w7 dX11_demandedNow_93 ?_
                refine lv_iload hx hb dX11_demandedNow_96 (lv_at hl 9 rfl) ?_
                refine rd_tald S hG.2.2.2.2.2.2.2 (vp_ki hI (by omega)) dX11_demandedNow_98 ?_
                refine W.eq (g2 := F0 mZ 99 ls [.int (mMg f i), .ref o, .int z52_8]) rfl ?_
                refine lv_iload hx hb dX11_demandedNow_99 (lv_at hl 10 rfl) ?_
                refine rd_V (As := [.int (mMg f i), .int (mSl f i)]) (rest := [.int z52_8]) (v := some (.int (mNd x y t (mMg f i) (mSl f i)))) S hG (c_X9_needs l G H (o) x y t a b ho (mMg f i) (mSl f i) (by assumption)) gX11_demandedNow_X9_needs rfl ⟨rfl, rfl⟩ nmX9_needs ⟨Nat.le_of_ble_eq_true rfl, Nat.le_of_ble_eq_true rfl⟩ (rd_rcv hG.1 ho rfl) rfl hl.1 rfl (Nat.le_of_ble_eq_true rfl) ⟨Nat.zero_le _, Nat.zero_le _⟩ dX11_demandedNow_101 ?_
                refine W.eq (g2 := F0 mZ 104 ls [.int (mNd x y t (mMg f i) (mSl f i)), .int z52_8]) rfl ?_
                refine rd_max S hl.1 m_max_86 ⟨Nat.le_of_ble_eq_true rfl, Nat.le_of_ble_eq_true rfl⟩ (Nat.le_of_ble_eq_true rfl) ⟨Nat.zero_le _, Nat.zero_le _⟩ dX11_demandedNow_104 ?_
                refine W.eq (g2 := F0 mZ 107 ls [.int (imax z52_8 (mNd x y t (mMg f i) (mSl f i)))]) rfl ?_
                refine lv_topi (fun x33 ex33 => ?_)
                refine lv_istore (lv' := [(8, .int x33), (10, .ref o), (9, .int (nI k52)), (0, .ref (B 0)), (1, .int (nI i)), (2, .int d), (3, .int w), (4, .ref o), (5, .ref (B (40 + i))), (6, .int (mKi f i)), (7, .int (mSl f i))]) hx hb dX11_demandedNow_107 hl (by decide) rfl (fun ls hl => ?_)
                refine lv_iinc (v := nI (k52 + 1)) (lv' := [(9, .int (nI (k52 + 1))), (8, .int x33), (10, .ref o), (0, .ref (B 0)), (1, .int (nI i)), (2, .int d), (3, .int w), (4, .ref o), (5, .ref (B (40 + i))), (6, .int (mKi f i)), (7, .int (mSl f i))]) hx hb dX11_demandedNow_109 hl (k := 2) rfl (nI_inc _) (by decide) rfl (fun ls hl => ?_)
                refine lv_goto (tgt := 52) hx hb dX11_demandedNow_112 (by decide) ?_
                exact ih52 (k52 + 1) (by omega) _ (by subst ex33; subst ez52_8; first | rfl | (simp only [fl, c1, c27, d27, q28p, q29e.1, q29e.2.1, q29e.2.2, c32, d32, ne_eq, not_true_eq_false, not_false_eq_true, and_true, true_and, and_false, false_and, or_true, true_or, or_false, false_or, and_self, or_self, decide_eq_true_eq, ↓reduceIte]; done) | (simp only [fl, c1, c27, d27, q28p, q29e.1, q29e.2.1, q29e.2.2, c32, d32, ne_eq, not_true_eq_false, not_false_eq_true, and_true, true_and, and_false, false_and, or_true, true_or, or_false, false_or, and_self, or_self, decide_eq_true_eq, ↓reduceIte]; rfl) | (simp [fl, c1, c27, d27, q28p, q29e.1, q29e.2.1, q29e.2.2, c32, d32]; done) | (simp only [fl, c1, c27, d27, q28p, q29e.1, q29e.2.1, q29e.2.2, c32, d32, ne_eq, not_true_eq_false, not_false_eq_true, and_true, true_and, and_false, false_and, or_true, true_or, or_false, false_or, and_self, or_self, decide_eq_true_eq, ↓reduceIte])) ls (lv_sub hl [0, 1, 3, 4, 5, 6, 7, 8, 9, 10] rfl)
            · have q28p : ¬ pM f g d w a b k52 = true := by rw [q29N]; exact pM_of q28
              refine rd_V (As := [.int (nI k52), .int d, .int w, .ref o]) (rest := []) (v := some (.null)) S hG (by rw [q29N]; exact c_X11_at_of l G B th mc cp f g H hM o x y t a b ho d w q28) gX11_demandedNow_X11_at rfl ⟨rfl, rfl⟩ nmX11_at ⟨Nat.le_of_ble_eq_true rfl, Nat.le_of_ble_eq_true rfl⟩ (rd_rcv hG.1 (mP_0 hM) rfl) rfl hl.1 rfl (Nat.le_of_ble_eq_true rfl) ⟨Nat.zero_le _, Nat.zero_le _⟩ dX11_demandedNow_71 ?_
              refine W.eq (g2 := F0 mZ 74 ls [.null]) rfl ?_
              refine lv_astoreN (lv' := [(10, .null), (9, .int (nI k52)), (8, .int z52_8), (0, .ref (B 0)), (1, .int (nI i)), (2, .int d), (3, .int w), (4, .ref o), (5, .ref (B (40 + i))), (6, .int (mKi f i)), (7, .int (mSl f i))]) hx hb dX11_demandedNow_74 hl (by decide) rfl (fun ls hl => ?_)
              refine lv_aloadN hx hb dX11_demandedNow_76 (lv_at hl 0 rfl) ?_
              refine lv_ifnullN (tgt := 109) hx hb dX11_demandedNow_78 (by decide) ?_
              refine lv_iinc (v := nI (k52 + 1)) (lv' := [(9, .int (nI (k52 + 1))), (10, .null), (8, .int z52_8), (0, .ref (B 0)), (1, .int (nI i)), (2, .int d), (3, .int w), (4, .ref o), (5, .ref (B (40 + i))), (6, .int (mKi f i)), (7, .int (mSl f i))]) hx hb dX11_demandedNow_109 hl (k := 1) rfl (nI_inc _) (by decide) rfl (fun ls hl => ?_)
              refine lv_goto (tgt := 52) hx hb dX11_demandedNow_112 (by decide) ?_
              exact ih52 (k52 + 1) (by omega) _ (by subst ez52_8; first | rfl | (simp only [fl, c1, c27, d27, q28p, ne_eq, not_true_eq_false, not_false_eq_true, and_true, true_and, and_false, false_and, or_true, true_or, or_false, false_or, and_self, or_self, decide_eq_true_eq, ↓reduceIte]; done) | (simp only [fl, c1, c27, d27, q28p, ne_eq, not_true_eq_false, not_false_eq_true, and_true, true_and, and_false, false_and, or_true, true_or, or_false, false_or, and_self, or_self, decide_eq_true_eq, ↓reduceIte]; rfl) | (simp [fl, c1, c27, d27, q28p]; done) | (simp only [fl, c1, c27, d27, q28p, ne_eq, not_true_eq_false, not_false_eq_true, and_true, true_and, and_false, false_and, or_true, true_or, or_false, false_or, and_self, or_self, decide_eq_true_eq, ↓reduceIte])) ls (lv_sub hl [0, 2, 3, 4, 5, 6, 7, 8, 9, 10] rfl)
    exact loop52 (g 1 + 1) 0 (by omega) _ (by first | rfl | first | rfl | (simp only [fl, c1, ne_eq, not_true_eq_false, not_false_eq_true, and_true, true_and, and_false, false_and, or_true, true_or, or_false, false_or, and_self, or_self, decide_eq_true_eq, ↓reduceIte]; done) | (simp only [fl, c1, ne_eq, not_true_eq_false, not_false_eq_true, and_true, true_and, and_false, false_and, or_true, true_or, or_false, false_or, and_self, or_self, decide_eq_true_eq, ↓reduceIte]; rfl) | (simp [fl, c1]; done) | (simp only [fl, c1, ne_eq, not_true_eq_false, not_false_eq_true, and_true, true_and, and_false, false_and, or_true, true_or, or_false, false_or, and_self, or_self, decide_eq_true_eq, ↓reduceIte])) ls (lv_sub hl [0, 1, 5, 6, 7, 8, 9, 4, 3, 2] rfl)

