theorem nmX7_heightToKeep : nmV yX7_heightToKeep RX7 3 := by decide +kernel
set_option maxHeartbeats 1000000 in
set_option maxRecDepth 100000 in
theorem c_X7_heightToKeep (l : Launch) (G : GT) (A : Nat → Nat) (f : Nat → Nat → Int32) (g : Nat → Nat) (H : Heap) (hR : RP G A f g H) (p a b : Int32) (ha : a = nI (cnt a)) (hb1 : ¬ b = -1 → b = nI (cnt b)) (hb2 : laOf b ≤ 399) (ha2 : cnt a ≤ 399) : RdV l G H yX7_heightToKeep wsX7_heightToKeep { frames := 4, cells := 0, slots := 0, locals := 98 } [.ref (A 0), .int p, .int a, .int b] (some (.int (hTK f g p (cnt a) (laOf b)))) := by
  refine rd_of (cc := cX7_heightToKeep) (maxL := 8) (ret := (some .int)) (by decide) rfl (Nat.le_of_ble_eq_true rfl) ?_
  intro pZ eZ sZ mZ bZ meZ cZ ls S hr hlk hl hH hG
  have S : CallFix pZ mZ cZ cX7_heightToKeep 8 sZ _ wsX7_heightToKeep RX7 := S
  have hx := S.1
  have hb := S.2.1
  have hown := S.2.2.2.1
  have hts := S.2.2.2.2
  have hl : lv_has ls 8 [(0, .ref (A 0)), (1, .int p), (2, .int a), (3, .int b)] := hl
  have w0 := hts (.constant RX7 294 (1000000)) (by decide +kernel)
  have w1 := hts (.fieldLink RX7 51 "MinimaRoom" "now" "I") (by decide +kernel)
  have iX7 : ∀ w ∈ u_ws RX7 TX7 8, w ∈ wsX7_heightToKeep := by decide +kernel
  have m_max_98 : [.methodLink RX7 98 Lib.Math.max.name, .static Lib.Math.max.name, .initialized "java/lang/Math", .code Lib.Math.max.name Lib.Math.max.code 2 (some .int)] ⊆ wsX7_heightToKeep := by decide +kernel
  have hgb := hR.1
  have hg0 := hgb 0
  refine lv_ldcw (own := RX7) (v := 1000000) hx hb hown w0 dX7_heightToKeep_0 ?_
  refine W.eq (g2 := F0 mZ 3 ls [.int MXI]) rfl ?_
  refine lv_istore (lv' := [(4, .int MXI), (0, .ref (A 0)), (1, .int p), (2, .int a), (3, .int b)]) hx hb dX7_heightToKeep_3 hl (by decide) rfl (fun ls hl => ?_)
  refine lv_iload_n hx hb dX7_heightToKeep_5 rfl (lv_at hl 4 rfl) ?_
  refine lv_iconst (v := (-1)) hx hb dX7_heightToKeep_6 (by decide) ?_
  refine lv_icmp_ne (tgt := 16) hx hb dX7_heightToKeep_7 (by decide) (fun c1 => ?_) (fun c1 => ?_)
  · refine lv_iload_n hx hb dX7_heightToKeep_16 rfl (lv_at hl 4 rfl) ?_
    refine W.eq (g2 := F0 mZ 17 ls [.int (nI (laOf b))]) (congrArg (fun z => F0 mZ 17 ls [Value.int z]) (laOf_f c1 (hb1 c1))) ?_
    refine lv_istore (lv' := [(5, .int (nI (laOf b))), (4, .int MXI), (0, .ref (A 0)), (1, .int p), (2, .int a), (3, .int b)]) hx hb dX7_heightToKeep_17 hl (by decide) rfl (fun ls hl => ?_)
    refine lv_iload_n hx hb dX7_heightToKeep_19 rfl (lv_at hl 4 rfl) ?_
    refine lv_aload_n hx hb dX7_heightToKeep_20 rfl (lv_at hl 2 rfl) ?_
    refine rd_get (own := RX7) (x := .int (nI (g 0))) S hG.1 iX7 (rP_0 hR) 6 rfl (by decide) w1 rfl dX7_heightToKeep_21 ?_
    refine rd_max S hl.1 m_max_98 ⟨Nat.le_of_ble_eq_true rfl, Nat.le_of_ble_eq_true rfl⟩ (Nat.le_of_ble_eq_true rfl) ⟨Nat.zero_le _, Nat.zero_le _⟩ dX7_heightToKeep_24 ?_
    refine W.eq (g2 := F0 mZ 27 ls [.int (imax a (nI (g 0)))]) rfl ?_
    refine W.eq (g2 := F0 mZ 27 ls [.int (nI (max (cnt a) (g 0)))]) (congrArg (fun z => F0 mZ 27 ls [Value.int z]) (imax_c ha (by omega))) ?_
    refine lv_istore (lv' := [(6, .int (nI (max (cnt a) (g 0)))), (5, .int (nI (laOf b))), (4, .int MXI), (0, .ref (A 0)), (1, .int p), (2, .int a), (3, .int b)]) hx hb dX7_heightToKeep_27 hl (by decide) rfl (fun ls hl => ?_)
    have loop29 : ∀ (n29 k29 : Nat), k29 + n29 = laOf b + 1 - max (cnt a) (g 0) → ∀ (z29_4 : Int32), z29_4 = fl k29 (fun j kp => if ¬ hIF f g p (nI (max (cnt a) (g 0) + j)) = -1 ∧ hIF f g p (nI (max (cnt a) (g 0) + j)) < kp ∧ ¬ hIF f g p (nI (max (cnt a) (g 0) + j)) < lH f g p (nI (max (cnt a) (g 0) + j)) (-1) then hIF f g p (nI (max (cnt a) (g 0) + j)) else kp) MXI → ∀ (ls : Array Slot), lv_has ls 8 [(6, .int (nI (max (cnt a) (g 0) + k29))), (4, .int z29_4), (0, .ref (A 0)), (1, .int p), (2, .int a), (3, .int b), (5, .int (nI (laOf b)))] → W pZ l eZ ({ frames := 4, cells := 0, slots := 0, locals := 98 } : Room) sZ mZ ([.ref (A 0), .int p, .int a, .int b] : List Value).toArray bZ meZ cZ H [] 0 0 (rd_Q bZ H [.ref (A 0), .int p, .int a, .int b] sZ (some (.int (hTK f g p (cnt a) (laOf b))))) (F0 mZ 29 ls []) := by
      intro n29
      induction n29 with
      | zero =>
        intro k29 hk29 z29_4 ez29_4 ls hl
        obtain rfl : k29 = laOf b + 1 - max (cnt a) (g 0) := by omega
        refine lv_iload hx hb dX7_heightToKeep_29 (lv_at hl 0 rfl) ?_
        refine lv_iload hx hb dX7_heightToKeep_31 (lv_at hl 6 rfl) ?_
        refine lv_icmp_gt (tgt := 81) hx hb dX7_heightToKeep_33 (by decide) (fun c2 => ?_) (fun c2 => ?_)
        · have d2 := Int32.not_le.mpr c2
          refine lv_iload hx hb dX7_heightToKeep_81 (lv_at hl 1 rfl) ?_
          exact rd_iret S hr hlk dX7_heightToKeep_83 (congrArg (fun z => some (Value.int z)) (by subst ez29_4; first | rfl | (simp only [hTK, c1, c2, d2, ne_eq, not_true_eq_false, not_false_eq_true, and_true, true_and, and_false, false_and, or_true, true_or, or_false, false_or, and_self, or_self, decide_eq_true_eq, ↓reduceIte]; done) | (simp [hTK, c1, c2, d2]; done) | (simp only [hTK, c1, c2, d2, ne_eq, not_true_eq_false, not_false_eq_true, and_true, true_and, and_false, false_and, or_true, true_or, or_false, false_or, and_self, or_self, decide_eq_true_eq, ↓reduceIte])))
        · exact absurd (nI_lt (by omega) (by omega)) c2
      | succ n29 ih29 =>
        intro k29 hk29 z29_4 ez29_4 ls hl
        refine lv_iload hx hb dX7_heightToKeep_29 (lv_at hl 0 rfl) ?_
        refine lv_iload hx hb dX7_heightToKeep_31 (lv_at hl 6 rfl) ?_
        refine lv_icmp_gt (tgt := 81) hx hb dX7_heightToKeep_33 (by decide) (fun c3 => ?_) (fun c3 => ?_)
        · exact absurd c3 (nI_nlt (by omega) (by omega))
        · have d3 := Int32.not_lt.mp c3
          refine lv_aload_n hx hb dX7_heightToKeep_36 rfl (lv_at hl 2 rfl) ?_
          refine lv_iload_n hx hb dX7_heightToKeep_37 rfl (lv_at hl 3 rfl) ?_
          refine lv_iload hx hb dX7_heightToKeep_38 (lv_at hl 0 rfl) ?_
          refine rd_V (As := [.int p, .int (nI (max (cnt a) (g 0) + k29))]) (rest := []) (v := some (.int (hIF f g p (nI (max (cnt a) (g 0) + k29))))) S hG (c_X7_heightInForce l G A f g H hR p (nI (max (cnt a) (g 0) + k29))) gX7_heightToKeep_X7_heightInForce rfl ⟨rfl, rfl⟩ nmX7_heightInForce ⟨Nat.le_of_ble_eq_true rfl, Nat.le_of_ble_eq_true rfl⟩ (rd_rcv hG.1 (rP_0 hR) rfl) rfl hl.1 rfl (Nat.le_of_ble_eq_true rfl) ⟨Nat.zero_le _, Nat.zero_le _⟩ dX7_heightToKeep_40 ?_
          refine W.eq (g2 := F0 mZ 43 ls [.int (hIF f g p (nI (max (cnt a) (g 0) + k29)))]) rfl ?_
          refine lv_topi (fun x4 ex4 => ?_)
          refine lv_istore (lv' := [(7, .int x4), (6, .int (nI (max (cnt a) (g 0) + k29))), (4, .int z29_4), (0, .ref (A 0)), (1, .int p), (2, .int a), (3, .int b), (5, .int (nI (laOf b)))]) hx hb dX7_heightToKeep_43 hl (by decide) rfl (fun ls hl => ?_)
          refine lv_iload hx hb dX7_heightToKeep_45 (lv_at hl 0 rfl) ?_
          refine lv_iconst (v := (-1)) hx hb dX7_heightToKeep_47 (by decide) ?_
          refine lv_icmp_eq (tgt := 75) hx hb dX7_heightToKeep_48 (by decide) (fun c5 => ?_) (fun c5 => ?_)
          · refine lv_iinc (v := nI ((max (cnt a) (g 0) + k29) + 1)) (lv' := [(6, .int (nI ((max (cnt a) (g 0) + k29) + 1))), (7, .int x4), (4, .int z29_4), (0, .ref (A 0)), (1, .int p), (2, .int a), (3, .int b), (5, .int (nI (laOf b)))]) hx hb dX7_heightToKeep_75 hl (k := 1) rfl (nI_inc _) (by decide) rfl (fun ls hl => ?_)
            refine lv_goto (tgt := 29) hx hb dX7_heightToKeep_78 (by decide) ?_
            exact ih29 (k29 + 1) (by omega) _ (by subst ex4; subst ez29_4; first | rfl | (simp only [fl, hTK, c1, c3, d3, c5, ne_eq, not_true_eq_false, not_false_eq_true, and_true, true_and, and_false, false_and, or_true, true_or, or_false, false_or, and_self, or_self, decide_eq_true_eq, ↓reduceIte]; done) | (simp [fl, hTK, c1, c3, d3, c5]; done) | (simp only [fl, hTK, c1, c3, d3, c5, ne_eq, not_true_eq_false, not_false_eq_true, and_true, true_and, and_false, false_and, or_true, true_or, or_false, false_or, and_self, or_self, decide_eq_true_eq, ↓reduceIte])) ls (lv_sub hl [0, 2, 3, 4, 5, 6, 7] rfl)
          · refine lv_iload hx hb dX7_heightToKeep_51 (lv_at hl 0 rfl) ?_
            refine lv_iload hx hb dX7_heightToKeep_53 (lv_at hl 2 rfl) ?_
            refine lv_icmp_ge (tgt := 75) hx hb dX7_heightToKeep_55 (by decide) (fun c6 => ?_) (fun c6 => ?_)
            · have d6 := Int32.not_lt.mpr c6
              refine lv_iinc (v := nI ((max (cnt a) (g 0) + k29) + 1)) (lv' := [(6, .int (nI ((max (cnt a) (g 0) + k29) + 1))), (7, .int x4), (4, .int z29_4), (0, .ref (A 0)), (1, .int p), (2, .int a), (3, .int b), (5, .int (nI (laOf b)))]) hx hb dX7_heightToKeep_75 hl (k := 1) rfl (nI_inc _) (by decide) rfl (fun ls hl => ?_)
              refine lv_goto (tgt := 29) hx hb dX7_heightToKeep_78 (by decide) ?_
              exact ih29 (k29 + 1) (by omega) _ (by subst ex4; subst ez29_4; first | rfl | (simp only [fl, hTK, c1, c3, d3, c5, c6, d6, ne_eq, not_true_eq_false, not_false_eq_true, and_true, true_and, and_false, false_and, or_true, true_or, or_false, false_or, and_self, or_self, decide_eq_true_eq, ↓reduceIte]; done) | (simp [fl, hTK, c1, c3, d3, c5, c6, d6]; done) | (simp only [fl, hTK, c1, c3, d3, c5, c6, d6, ne_eq, not_true_eq_false, not_false_eq_true, and_true, true_and, and_false, false_and, or_true, true_or, or_false, false_or, and_self, or_self, decide_eq_true_eq, ↓reduceIte])) ls (lv_sub hl [0, 2, 3, 4, 5, 6, 7] rfl)
            · have d6 := Int32.not_le.mp c6
              refine lv_iload hx hb dX7_heightToKeep_58 (lv_at hl 0 rfl) ?_
              refine lv_aload_n hx hb dX7_heightToKeep_60 rfl (lv_at hl 3 rfl) ?_
              refine lv_iload_n hx hb dX7_heightToKeep_61 rfl (lv_at hl 4 rfl) ?_
              refine lv_iload hx hb dX7_heightToKeep_62 (lv_at hl 1 rfl) ?_
              refine lv_iconst (v := (-1)) hx hb dX7_heightToKeep_64 (by decide) ?_
              refine rd_V (As := [.int p, .int (nI (max (cnt a) (g 0) + k29)), .int (-1)]) (rest := [.int x4]) (v := some (.int (lH f g p (nI (max (cnt a) (g 0) + k29)) (-1)))) S hG (c_X7_leastHeight l G A f g H hR p (nI (max (cnt a) (g 0) + k29)) (-1)) gX7_heightToKeep_X7_leastHeight rfl ⟨rfl, rfl⟩ nmX7_leastHeight ⟨Nat.le_of_ble_eq_true rfl, Nat.le_of_ble_eq_true rfl⟩ (rd_rcv hG.1 (rP_0 hR) rfl) rfl hl.1 rfl (Nat.le_of_ble_eq_true rfl) ⟨Nat.zero_le _, Nat.zero_le _⟩ dX7_heightToKeep_65 ?_
              refine W.eq (g2 := F0 mZ 68 ls [.int (lH f g p (nI (max (cnt a) (g 0) + k29)) (-1)), .int x4]) rfl ?_
              refine lv_icmp_lt (tgt := 75) hx hb dX7_heightToKeep_68 (by decide) (fun c7 => ?_) (fun c7 => ?_)
              · have d7 := Int32.not_le.mpr c7
                refine lv_iinc (v := nI ((max (cnt a) (g 0) + k29) + 1)) (lv' := [(6, .int (nI ((max (cnt a) (g 0) + k29) + 1))), (7, .int x4), (4, .int z29_4), (0, .ref (A 0)), (1, .int p), (2, .int a), (3, .int b), (5, .int (nI (laOf b)))]) hx hb dX7_heightToKeep_75 hl (k := 1) rfl (nI_inc _) (by decide) rfl (fun ls hl => ?_)
                refine lv_goto (tgt := 29) hx hb dX7_heightToKeep_78 (by decide) ?_
                exact ih29 (k29 + 1) (by omega) _ (by subst ex4; subst ez29_4; first | rfl | (simp only [fl, hTK, c1, c3, d3, c5, c6, d6, c7, d7, ne_eq, not_true_eq_false, not_false_eq_true, and_true, true_and, and_false, false_and, or_true, true_or, or_false, false_or, and_self, or_self, decide_eq_true_eq, ↓reduceIte]; done) | (simp [fl, hTK, c1, c3, d3, c5, c6, d6, c7, d7]; done) | (simp only [fl, hTK, c1, c3, d3, c5, c6, d6, c7, d7, ne_eq, not_true_eq_false, not_false_eq_true, and_true, true_and, and_false, false_and, or_true, true_or, or_false, false_or, and_self, or_self, decide_eq_true_eq, ↓reduceIte])) ls (lv_sub hl [0, 2, 3, 4, 5, 6, 7] rfl)
              · have d7 := Int32.not_lt.mp c7
                refine lv_iload hx hb dX7_heightToKeep_71 (lv_at hl 0 rfl) ?_
                refine lv_istore (lv' := [(4, .int x4), (7, .int x4), (6, .int (nI (max (cnt a) (g 0) + k29))), (0, .ref (A 0)), (1, .int p), (2, .int a), (3, .int b), (5, .int (nI (laOf b)))]) hx hb dX7_heightToKeep_73 hl (by decide) rfl (fun ls hl => ?_)
                refine lv_iinc (v := nI ((max (cnt a) (g 0) + k29) + 1)) (lv' := [(6, .int (nI ((max (cnt a) (g 0) + k29) + 1))), (4, .int x4), (7, .int x4), (0, .ref (A 0)), (1, .int p), (2, .int a), (3, .int b), (5, .int (nI (laOf b)))]) hx hb dX7_heightToKeep_75 hl (k := 2) rfl (nI_inc _) (by decide) rfl (fun ls hl => ?_)
                refine lv_goto (tgt := 29) hx hb dX7_heightToKeep_78 (by decide) ?_
                exact ih29 (k29 + 1) (by omega) _ (by subst ex4; subst ez29_4; first | rfl | (simp only [fl, hTK, c1, c3, d3, c5, c6, d6, c7, d7, ne_eq, not_true_eq_false, not_false_eq_true, and_true, true_and, and_false, false_and, or_true, true_or, or_false, false_or, and_self, or_self, decide_eq_true_eq, ↓reduceIte]; done) | (simp [fl, hTK, c1, c3, d3, c5, c6, d6, c7, d7]; done) | (simp only [fl, hTK, c1, c3, d3, c5, c6, d6, c7, d7, ne_eq, not_true_eq_false, not_false_eq_true, and_true, true_and, and_false, false_and, or_true, true_or, or_false, false_or, and_self, or_self, decide_eq_true_eq, ↓reduceIte])) ls (lv_sub hl [0, 1, 3, 4, 5, 6, 7] rfl)
    exact loop29 (laOf b + 1 - max (cnt a) (g 0)) 0 (by omega) _ (by first | rfl | (simp only [fl, hTK, c1, ne_eq, not_true_eq_false, not_false_eq_true, and_true, true_and, and_false, false_and, or_true, true_or, or_false, false_or, and_self, or_self, decide_eq_true_eq, ↓reduceIte]; done) | (simp [fl, hTK, c1]; done) | (simp only [fl, hTK, c1, ne_eq, not_true_eq_false, not_false_eq_true, and_true, true_and, and_false, false_and, or_true, true_or, or_false, false_or, and_self, or_self, decide_eq_true_eq, ↓reduceIte])) ls (lv_sub hl [0, 2, 3, 4, 5, 6, 1] rfl)
  · refine lv_sipush (v := 399) hx hb dX7_heightToKeep_10 (by decide) ?_
    refine lv_goto (tgt := 17) hx hb dX7_heightToKeep_13 (by decide) ?_
    refine W.eq (g2 := F0 mZ 17 ls [.int (nI (laOf b))]) (congrArg (fun z => F0 mZ 17 ls [Value.int z]) (laOf_t c1)) ?_
    refine lv_istore (lv' := [(5, .int (nI (laOf b))), (4, .int MXI), (0, .ref (A 0)), (1, .int p), (2, .int a), (3, .int b)]) hx hb dX7_heightToKeep_17 hl (by decide) rfl (fun ls hl => ?_)
    refine lv_iload_n hx hb dX7_heightToKeep_19 rfl (lv_at hl 4 rfl) ?_
    refine lv_aload_n hx hb dX7_heightToKeep_20 rfl (lv_at hl 2 rfl) ?_
    refine rd_get (own := RX7) (x := .int (nI (g 0))) S hG.1 iX7 (rP_0 hR) 6 rfl (by decide) w1 rfl dX7_heightToKeep_21 ?_
    refine rd_max S hl.1 m_max_98 ⟨Nat.le_of_ble_eq_true rfl, Nat.le_of_ble_eq_true rfl⟩ (Nat.le_of_ble_eq_true rfl) ⟨Nat.zero_le _, Nat.zero_le _⟩ dX7_heightToKeep_24 ?_
    refine W.eq (g2 := F0 mZ 27 ls [.int (imax a (nI (g 0)))]) rfl ?_
    refine W.eq (g2 := F0 mZ 27 ls [.int (nI (max (cnt a) (g 0)))]) (congrArg (fun z => F0 mZ 27 ls [Value.int z]) (imax_c ha (by omega))) ?_
    refine lv_istore (lv' := [(6, .int (nI (max (cnt a) (g 0)))), (5, .int (nI (laOf b))), (4, .int MXI), (0, .ref (A 0)), (1, .int p), (2, .int a), (3, .int b)]) hx hb dX7_heightToKeep_27 hl (by decide) rfl (fun ls hl => ?_)
    have loop29 : ∀ (n29 k29 : Nat), k29 + n29 = laOf b + 1 - max (cnt a) (g 0) → ∀ (z29_4 : Int32), z29_4 = fl k29 (fun j kp => if ¬ hIF f g p (nI (max (cnt a) (g 0) + j)) = -1 ∧ hIF f g p (nI (max (cnt a) (g 0) + j)) < kp ∧ ¬ hIF f g p (nI (max (cnt a) (g 0) + j)) < lH f g p (nI (max (cnt a) (g 0) + j)) (-1) then hIF f g p (nI (max (cnt a) (g 0) + j)) else kp) MXI → ∀ (ls : Array Slot), lv_has ls 8 [(6, .int (nI (max (cnt a) (g 0) + k29))), (4, .int z29_4), (0, .ref (A 0)), (1, .int p), (2, .int a), (3, .int b), (5, .int (nI (laOf b)))] → W pZ l eZ ({ frames := 4, cells := 0, slots := 0, locals := 98 } : Room) sZ mZ ([.ref (A 0), .int p, .int a, .int b] : List Value).toArray bZ meZ cZ H [] 0 0 (rd_Q bZ H [.ref (A 0), .int p, .int a, .int b] sZ (some (.int (hTK f g p (cnt a) (laOf b))))) (F0 mZ 29 ls []) := by
      intro n29
      induction n29 with
      | zero =>
        intro k29 hk29 z29_4 ez29_4 ls hl
        obtain rfl : k29 = laOf b + 1 - max (cnt a) (g 0) := by omega
        refine lv_iload hx hb dX7_heightToKeep_29 (lv_at hl 0 rfl) ?_
        refine lv_iload hx hb dX7_heightToKeep_31 (lv_at hl 6 rfl) ?_
        refine lv_icmp_gt (tgt := 81) hx hb dX7_heightToKeep_33 (by decide) (fun c8 => ?_) (fun c8 => ?_)
        · have d8 := Int32.not_le.mpr c8
          refine lv_iload hx hb dX7_heightToKeep_81 (lv_at hl 1 rfl) ?_
          exact rd_iret S hr hlk dX7_heightToKeep_83 (congrArg (fun z => some (Value.int z)) (by subst ez29_4; first | rfl | (simp only [hTK, c1, c8, d8, ne_eq, not_true_eq_false, not_false_eq_true, and_true, true_and, and_false, false_and, or_true, true_or, or_false, false_or, and_self, or_self, decide_eq_true_eq, ↓reduceIte]; done) | (simp [hTK, c1, c8, d8]; done) | (simp only [hTK, c1, c8, d8, ne_eq, not_true_eq_false, not_false_eq_true, and_true, true_and, and_false, false_and, or_true, true_or, or_false, false_or, and_self, or_self, decide_eq_true_eq, ↓reduceIte])))
        · exact absurd (nI_lt (by omega) (by omega)) c8
      | succ n29 ih29 =>
        intro k29 hk29 z29_4 ez29_4 ls hl
        refine lv_iload hx hb dX7_heightToKeep_29 (lv_at hl 0 rfl) ?_
        refine lv_iload hx hb dX7_heightToKeep_31 (lv_at hl 6 rfl) ?_
        refine lv_icmp_gt (tgt := 81) hx hb dX7_heightToKeep_33 (by decide) (fun c9 => ?_) (fun c9 => ?_)
        · exact absurd c9 (nI_nlt (by omega) (by omega))
        · have d9 := Int32.not_lt.mp c9
          refine lv_aload_n hx hb dX7_heightToKeep_36 rfl (lv_at hl 2 rfl) ?_
          refine lv_iload_n hx hb dX7_heightToKeep_37 rfl (lv_at hl 3 rfl) ?_
          refine lv_iload hx hb dX7_heightToKeep_38 (lv_at hl 0 rfl) ?_
          refine rd_V (As := [.int p, .int (nI (max (cnt a) (g 0) + k29))]) (rest := []) (v := some (.int (hIF f g p (nI (max (cnt a) (g 0) + k29))))) S hG (c_X7_heightInForce l G A f g H hR p (nI (max (cnt a) (g 0) + k29))) gX7_heightToKeep_X7_heightInForce rfl ⟨rfl, rfl⟩ nmX7_heightInForce ⟨Nat.le_of_ble_eq_true rfl, Nat.le_of_ble_eq_true rfl⟩ (rd_rcv hG.1 (rP_0 hR) rfl) rfl hl.1 rfl (Nat.le_of_ble_eq_true rfl) ⟨Nat.zero_le _, Nat.zero_le _⟩ dX7_heightToKeep_40 ?_
          refine W.eq (g2 := F0 mZ 43 ls [.int (hIF f g p (nI (max (cnt a) (g 0) + k29)))]) rfl ?_
          refine lv_topi (fun x10 ex10 => ?_)
          refine lv_istore (lv' := [(7, .int x10), (6, .int (nI (max (cnt a) (g 0) + k29))), (4, .int z29_4), (0, .ref (A 0)), (1, .int p), (2, .int a), (3, .int b), (5, .int (nI (laOf b)))]) hx hb dX7_heightToKeep_43 hl (by decide) rfl (fun ls hl => ?_)
          refine lv_iload hx hb dX7_heightToKeep_45 (lv_at hl 0 rfl) ?_
          refine lv_iconst (v := (-1)) hx hb dX7_heightToKeep_47 (by decide) ?_
          refine lv_icmp_eq (tgt := 75) hx hb dX7_heightToKeep_48 (by decide) (fun c11 => ?_) (fun c11 => ?_)
          · refine lv_iinc (v := nI ((max (cnt a) (g 0) + k29) + 1)) (lv' := [(6, .int (nI ((max (cnt a) (g 0) + k29) + 1))), (7, .int x10), (4, .int z29_4), (0, .ref (A 0)), (1, .int p), (2, .int a), (3, .int b), (5, .int (nI (laOf b)))]) hx hb dX7_heightToKeep_75 hl (k := 1) rfl (nI_inc _) (by decide) rfl (fun ls hl => ?_)
            refine lv_goto (tgt := 29) hx hb dX7_heightToKeep_78 (by decide) ?_
            exact ih29 (k29 + 1) (by omega) _ (by subst ex10; subst ez29_4; first | rfl | (simp only [fl, hTK, c1, c9, d9, c11, ne_eq, not_true_eq_false, not_false_eq_true, and_true, true_and, and_false, false_and, or_true, true_or, or_false, false_or, and_self, or_self, decide_eq_true_eq, ↓reduceIte]; done) | (simp [fl, hTK, c1, c9, d9, c11]; done) | (simp only [fl, hTK, c1, c9, d9, c11, ne_eq, not_true_eq_false, not_false_eq_true, and_true, true_and, and_false, false_and, or_true, true_or, or_false, false_or, and_self, or_self, decide_eq_true_eq, ↓reduceIte])) ls (lv_sub hl [0, 2, 3, 4, 5, 6, 7] rfl)
          · refine lv_iload hx hb dX7_heightToKeep_51 (lv_at hl 0 rfl) ?_
            refine lv_iload hx hb dX7_heightToKeep_53 (lv_at hl 2 rfl) ?_
            refine lv_icmp_ge (tgt := 75) hx hb dX7_heightToKeep_55 (by decide) (fun c12 => ?_) (fun c12 => ?_)
            · have d12 := Int32.not_lt.mpr c12
              refine lv_iinc (v := nI ((max (cnt a) (g 0) + k29) + 1)) (lv' := [(6, .int (nI ((max (cnt a) (g 0) + k29) + 1))), (7, .int x10), (4, .int z29_4), (0, .ref (A 0)), (1, .int p), (2, .int a), (3, .int b), (5, .int (nI (laOf b)))]) hx hb dX7_heightToKeep_75 hl (k := 1) rfl (nI_inc _) (by decide) rfl (fun ls hl => ?_)
              refine lv_goto (tgt := 29) hx hb dX7_heightToKeep_78 (by decide) ?_
              exact ih29 (k29 + 1) (by omega) _ (by subst ex10; subst ez29_4; first | rfl | (simp only [fl, hTK, c1, c9, d9, c11, c12, d12, ne_eq, not_true_eq_false, not_false_eq_true, and_true, true_and, and_false, false_and, or_true, true_or, or_false, false_or, and_self, or_self, decide_eq_true_eq, ↓reduceIte]; done) | (simp [fl, hTK, c1, c9, d9, c11, c12, d12]; done) | (simp only [fl, hTK, c1, c9, d9, c11, c12, d12, ne_eq, not_true_eq_false, not_false_eq_true, and_true, true_and, and_false, false_and, or_true, true_or, or_false, false_or, and_self, or_self, decide_eq_true_eq, ↓reduceIte])) ls (lv_sub hl [0, 2, 3, 4, 5, 6, 7] rfl)
            · have d12 := Int32.not_le.mp c12
              refine lv_iload hx hb dX7_heightToKeep_58 (lv_at hl 0 rfl) ?_
              refine lv_aload_n hx hb dX7_heightToKeep_60 rfl (lv_at hl 3 rfl) ?_
              refine lv_iload_n hx hb dX7_heightToKeep_61 rfl (lv_at hl 4 rfl) ?_
              refine lv_iload hx hb dX7_heightToKeep_62 (lv_at hl 1 rfl) ?_
              refine lv_iconst (v := (-1)) hx hb dX7_heightToKeep_64 (by decide) ?_
              refine rd_V (As := [.int p, .int (nI (max (cnt a) (g 0) + k29)), .int (-1)]) (rest := [.int x10]) (v := some (.int (lH f g p (nI (max (cnt a) (g 0) + k29)) (-1)))) S hG (c_X7_leastHeight l G A f g H hR p (nI (max (cnt a) (g 0) + k29)) (-1)) gX7_heightToKeep_X7_leastHeight rfl ⟨rfl, rfl⟩ nmX7_leastHeight ⟨Nat.le_of_ble_eq_true rfl, Nat.le_of_ble_eq_true rfl⟩ (rd_rcv hG.1 (rP_0 hR) rfl) rfl hl.1 rfl (Nat.le_of_ble_eq_true rfl) ⟨Nat.zero_le _, Nat.zero_le _⟩ dX7_heightToKeep_65 ?_
              refine W.eq (g2 := F0 mZ 68 ls [.int (lH f g p (nI (max (cnt a) (g 0) + k29)) (-1)), .int x10]) rfl ?_
              refine lv_icmp_lt (tgt := 75) hx hb dX7_heightToKeep_68 (by decide) (fun c13 => ?_) (fun c13 => ?_)
              · have d13 := Int32.not_le.mpr c13
                refine lv_iinc (v := nI ((max (cnt a) (g 0) + k29) + 1)) (lv' := [(6, .int (nI ((max (cnt a) (g 0) + k29) + 1))), (7, .int x10), (4, .int z29_4), (0, .ref (A 0)), (1, .int p), (2, .int a), (3, .int b), (5, .int (nI (laOf b)))]) hx hb dX7_heightToKeep_75 hl (k := 1) rfl (nI_inc _) (by decide) rfl (fun ls hl => ?_)
                refine lv_goto (tgt := 29) hx hb dX7_heightToKeep_78 (by decide) ?_
                exact ih29 (k29 + 1) (by omega) _ (by subst ex10; subst ez29_4; first | rfl | (simp only [fl, hTK, c1, c9, d9, c11, c12, d12, c13, d13, ne_eq, not_true_eq_false, not_false_eq_true, and_true, true_and, and_false, false_and, or_true, true_or, or_false, false_or, and_self, or_self, decide_eq_true_eq, ↓reduceIte]; done) | (simp [fl, hTK, c1, c9, d9, c11, c12, d12, c13, d13]; done) | (simp only [fl, hTK, c1, c9, d9, c11, c12, d12, c13, d13, ne_eq, not_true_eq_false, not_false_eq_true, and_true, true_and, and_false, false_and, or_true, true_or, or_false, false_or, and_self, or_self, decide_eq_true_eq, ↓reduceIte])) ls (lv_sub hl [0, 2, 3, 4, 5, 6, 7] rfl)
              · have d13 := Int32.not_lt.mp c13
                refine lv_iload hx hb dX7_heightToKeep_71 (lv_at hl 0 rfl) ?_
                refine lv_istore (lv' := [(4, .int x10), (7, .int x10), (6, .int (nI (max (cnt a) (g 0) + k29))), (0, .ref (A 0)), (1, .int p), (2, .int a), (3, .int b), (5, .int (nI (laOf b)))]) hx hb dX7_heightToKeep_73 hl (by decide) rfl (fun ls hl => ?_)
                refine lv_iinc (v := nI ((max (cnt a) (g 0) + k29) + 1)) (lv' := [(6, .int (nI ((max (cnt a) (g 0) + k29) + 1))), (4, .int x10), (7, .int x10), (0, .ref (A 0)), (1, .int p), (2, .int a), (3, .int b), (5, .int (nI (laOf b)))]) hx hb dX7_heightToKeep_75 hl (k := 2) rfl (nI_inc _) (by decide) rfl (fun ls hl => ?_)
                refine lv_goto (tgt := 29) hx hb dX7_heightToKeep_78 (by decide) ?_
                exact ih29 (k29 + 1) (by omega) _ (by subst ex10; subst ez29_4; first | rfl | (simp only [fl, hTK, c1, c9, d9, c11, c12, d12, c13, d13, ne_eq, not_true_eq_false, not_false_eq_true, and_true, true_and, and_false, false_and, or_true, true_or, or_false, false_or, and_self, or_self, decide_eq_true_eq, ↓reduceIte]; done) | (simp [fl, hTK, c1, c9, d9, c11, c12, d12, c13, d13]; done) | (simp only [fl, hTK, c1, c9, d9, c11, c12, d12, c13, d13, ne_eq, not_true_eq_false, not_false_eq_true, and_true, true_and, and_false, false_and, or_true, true_or, or_false, false_or, and_self, or_self, decide_eq_true_eq, ↓reduceIte])) ls (lv_sub hl [0, 1, 3, 4, 5, 6, 7] rfl)
    exact loop29 (laOf b + 1 - max (cnt a) (g 0)) 0 (by omega) _ (by first | rfl | (simp only [fl, hTK, c1, ne_eq, not_true_eq_false, not_false_eq_true, and_true, true_and, and_false, false_and, or_true, true_or, or_false, false_or, and_self, or_self, decide_eq_true_eq, ↓reduceIte]; done) | (simp [fl, hTK, c1]; done) | (simp only [fl, hTK, c1, ne_eq, not_true_eq_false, not_false_eq_true, and_true, true_and, and_false, false_and, or_true, true_or, or_false, false_or, and_self, or_self, decide_eq_true_eq, ↓reduceIte])) ls (lv_sub hl [0, 2, 3, 4, 5, 6, 1] rfl)
set_option maxHeartbeats 1000000 in
set_option maxRecDepth 100000 in
theorem c_X7_permit (l : Launch) (G : GT) (hlf : l.stackTraces = false) (A : Nat → Nat) (f : Nat → Nat → Int32) (g : Nat → Nat) (H : Heap) (hR : RP G A f g H) (x y t a b : Int32) : RxV l G H yX7_permit wsX7_permit { frames := 9, cells := 1, slots := 6, locals := 147 } [.ref (A 0), .int x, .int y, .int t, .int a, .int b] (kOr (koPl x y a b) (koArg t 0 999)) (some (.int (prm f g x y t a b))) := by
  refine rx_of (cc := cX7_permit) (maxL := 8) (ret := (some .int)) (by decide) rfl (Nat.le_of_ble_eq_true rfl) ?_
  intro pZ eZ sZ mZ bZ meZ cZ ls S hr hlk hxt hl hHs hG
  have S : CallFix pZ mZ cZ cX7_permit 8 sZ _ wsX7_permit RX7 := S
  have hx := S.1
  have hb := S.2.1
  have hown := S.2.2.2.1
  have hts := S.2.2.2.2
  have hl : lv_has ls 8 [(0, .ref (A 0)), (1, .int x), (2, .int y), (3, .int t), (4, .int a), (5, .int b)] := hl
  have w0 := hts (.fieldLink RX7 26 "MinimaRoom" "procedures" "LMinimaRoom$Procedures;") (by decide +kernel)
  have iX7 : ∀ w ∈ u_ws RX7 TX7 8, w ∈ wsX7_permit := by decide +kernel
  have iX5 : ∀ w ∈ u_ws RX5 TX5 3, w ∈ wsX7_permit := by decide +kernel
  have hgb := hR.1
  have hg3 := hgb 3
  refine lv_iload_n hx hb dX7_permit_0 rfl (lv_at hl 1 rfl) ?_
  refine lv_iload_n hx hb dX7_permit_1 rfl (lv_at hl 2 rfl) ?_
  refine lv_iload hx hb dX7_permit_2 (lv_at hl 4 rfl) ?_
  refine lv_iload hx hb dX7_permit_4 (lv_at hl 5 rfl) ?_
  refine rx_S (As := [.int x, .int y, .int a, .int b]) (rest := []) (v := none) S hG (c_X7_requirePlace l G hlf H x y a b) gX7_permit_X7_requirePlace rfl ⟨rfl, rfl⟩ nmX7_requirePlace ⟨Nat.le_of_ble_eq_true rfl, Nat.le_of_ble_eq_true rfl⟩ rfl hl.1 rfl (Nat.le_of_ble_eq_true rfl) ⟨Nat.le_of_ble_eq_true rfl, Nat.le_of_ble_eq_true rfl⟩ dX7_permit_6 hxt hlk ⟨Nat.le_of_ble_eq_true rfl, Nat.le_of_ble_eq_true rfl⟩ (fun E t hE hext => ⟨by first | rfl | (simp only [prm, hE, kOr, ne_eq, not_true_eq_false, not_false_eq_true, and_true, true_and, and_false, false_and, or_true, true_or, or_false, false_or, and_self, or_self, decide_eq_true_eq, ↓reduceIte]; done) | (simp only [prm, hE, kOr, ne_eq, not_true_eq_false, not_false_eq_true, and_true, true_and, and_false, false_and, or_true, true_or, or_false, false_or, and_self, or_self, decide_eq_true_eq, ↓reduceIte]; done) | (simp [prm, hE, kOr]; done) | (simp only [prm, hE, kOr, ne_eq, not_true_eq_false, not_false_eq_true, and_true, true_and, and_false, false_and, or_true, true_or, or_false, false_or, and_self, or_self, decide_eq_true_eq, ↓reduceIte]), hext⟩) (fun k1 => ?_)
  refine W.eq (g2 := F0 mZ 9 ls []) rfl ?_
  have hpl := koPl_c k1
  refine lv_iload_n hx hb dX7_permit_9 rfl (lv_at hl 3 rfl) ?_
  refine rx_S (As := [.int t]) (rest := []) (v := none) S hG (c_X7_requireTop l G hlf H t) gX7_permit_X7_requireTop rfl ⟨rfl, rfl⟩ nmX7_requireTop ⟨Nat.le_of_ble_eq_true rfl, Nat.le_of_ble_eq_true rfl⟩ rfl hl.1 rfl (Nat.le_of_ble_eq_true rfl) ⟨Nat.le_of_ble_eq_true rfl, Nat.le_of_ble_eq_true rfl⟩ dX7_permit_10 hxt hlk ⟨Nat.le_of_ble_eq_true rfl, Nat.le_of_ble_eq_true rfl⟩ (fun E t hE hext => ⟨by first | rfl | (simp only [prm, k1, hE, kOr, ne_eq, not_true_eq_false, not_false_eq_true, and_true, true_and, and_false, false_and, or_true, true_or, or_false, false_or, and_self, or_self, decide_eq_true_eq, ↓reduceIte]; done) | (simp only [prm, k1, hE, kOr, ne_eq, not_true_eq_false, not_false_eq_true, and_true, true_and, and_false, false_and, or_true, true_or, or_false, false_or, and_self, or_self, decide_eq_true_eq, ↓reduceIte]; done) | (simp [prm, k1, hE, kOr]; done) | (simp only [prm, k1, hE, kOr, ne_eq, not_true_eq_false, not_false_eq_true, and_true, true_and, and_false, false_and, or_true, true_or, or_false, false_or, and_self, or_self, decide_eq_true_eq, ↓reduceIte]), hext⟩) (fun k2 => ?_)
  refine W.eq (g2 := F0 mZ 13 ls []) rfl ?_
  refine lv_iconst (v := 0) hx hb dX7_permit_13 (by decide) ?_
  refine lv_istore (lv' := [(6, .int 0), (0, .ref (A 0)), (1, .int x), (2, .int y), (3, .int t), (4, .int a), (5, .int b)]) hx hb dX7_permit_14 hl (by decide) rfl (fun ls hl => ?_)
  refine lv_iconst (v := 0) hx hb dX7_permit_16 (by decide) ?_
  refine lv_istore (lv' := [(7, .int 0), (6, .int 0), (0, .ref (A 0)), (1, .int x), (2, .int y), (3, .int t), (4, .int a), (5, .int b)]) hx hb dX7_permit_17 hl (by decide) rfl (fun ls hl => ?_)
  have loop19 : ∀ (n19 k19 : Nat), k19 + n19 = g 3 → ∀ (z19_6 : Int32), z19_6 = fl k19 (fun j s => if hTK f g (nI j) (cnt a) (laOf b) < nWB f (nI j) x y t then s ||| (1 <<< (nI j &&& 31)) else s) 0 → ∀ (ls : Array Slot), lv_has ls 8 [(7, .int (nI k19)), (6, .int z19_6), (0, .ref (A 0)), (1, .int x), (2, .int y), (3, .int t), (4, .int a), (5, .int b)] → W pZ l eZ ({ frames := 9, cells := 1, slots := 6, locals := 147 } : Room) sZ mZ ([.ref (A 0), .int x, .int y, .int t, .int a, .int b] : List Value).toArray bZ meZ cZ H [] 0 0 (rx_Q bZ H [.ref (A 0), .int x, .int y, .int t, .int a, .int b] sZ (kOr (koPl x y a b) (koArg t 0 999)) (some (.int (prm f g x y t a b)))) (F0 mZ 19 ls []) := by
    intro n19
    induction n19 with
    | zero =>
      intro k19 hk19 z19_6 ez19_6 ls hl
      obtain rfl : k19 = g 3 := by omega
      refine lv_iload hx hb dX7_permit_19 (lv_at hl 0 rfl) ?_
      refine lv_aload_n hx hb dX7_permit_21 rfl (lv_at hl 2 rfl) ?_
      refine rd_get (own := RX7) (x := .ref (A 3)) S hG.1 iX7 (rP_0 hR) 2 rfl (by decide) w0 rfl dX7_permit_22 ?_
      refine rd_getN (own := RX7) (x := .int (nI (g 3))) S hG.1 iX5 (rP_3 hR) 2 rfl (by decide) nest_124 rfl dX7_permit_25 ?_
      refine lv_icmp_ge (tgt := 68) hx hb dX7_permit_28 (by decide) (fun c3 => ?_) (fun c3 => ?_)
      · have d3 := Int32.not_lt.mpr c3
        refine lv_iload hx hb dX7_permit_68 (lv_at hl 1 rfl) ?_
        exact rx_iret S hr hlk dX7_permit_70 (by subst ez19_6; first | rfl | (simp only [prm, k1, k2, kOr, ne_eq, not_true_eq_false, not_false_eq_true, and_true, true_and, and_false, false_and, or_true, true_or, or_false, false_or, and_self, or_self, decide_eq_true_eq, ↓reduceIte]; done) | (simp only [prm, k1, k2, c3, d3, kOr, ne_eq, not_true_eq_false, not_false_eq_true, and_true, true_and, and_false, false_and, or_true, true_or, or_false, false_or, and_self, or_self, decide_eq_true_eq, ↓reduceIte]; done) | (simp [prm, k1, k2, c3, d3, kOr]; done) | (simp only [prm, k1, k2, c3, d3, kOr, ne_eq, not_true_eq_false, not_false_eq_true, and_true, true_and, and_false, false_and, or_true, true_or, or_false, false_or, and_self, or_self, decide_eq_true_eq, ↓reduceIte])) (congrArg (fun z => some (Value.int z)) (by subst ez19_6; first | rfl | (simp only [prm, k1, k2, c3, d3, ne_eq, not_true_eq_false, not_false_eq_true, and_true, true_and, and_false, false_and, or_true, true_or, or_false, false_or, and_self, or_self, decide_eq_true_eq, ↓reduceIte]; done) | (simp [prm, k1, k2, c3, d3]; done) | (simp only [prm, k1, k2, c3, d3, ne_eq, not_true_eq_false, not_false_eq_true, and_true, true_and, and_false, false_and, or_true, true_or, or_false, false_or, and_self, or_self, decide_eq_true_eq, ↓reduceIte])))
      · exact absurd c3 (by first | exact fun h => absurd (Int32.le_refl _) h | exact nI_nlt (by omega) (by omega) | exact nI_ge (by omega) (by omega) | exact fun h => h (nI_lt (by omega) (by omega)) | exact fun h => h (nI_le (by omega) (by omega)) | exact fun h => h (lp_le_cnt _) | exact lp_nle (by omega))
    | succ n19 ih19 =>
      intro k19 hk19 z19_6 ez19_6 ls hl
      refine lv_iload hx hb dX7_permit_19 (lv_at hl 0 rfl) ?_
      refine lv_aload_n hx hb dX7_permit_21 rfl (lv_at hl 2 rfl) ?_
      refine rd_get (own := RX7) (x := .ref (A 3)) S hG.1 iX7 (rP_0 hR) 2 rfl (by decide) w0 rfl dX7_permit_22 ?_
      refine rd_getN (own := RX7) (x := .int (nI (g 3))) S hG.1 iX5 (rP_3 hR) 2 rfl (by decide) nest_124 rfl dX7_permit_25 ?_
      refine lv_icmp_ge (tgt := 68) hx hb dX7_permit_28 (by decide) (fun c4 => ?_) (fun c4 => ?_)
      · exact absurd c4 (by first | exact fun h => absurd (Int32.le_refl _) h | exact nI_nlt (by omega) (by omega) | exact nI_ge (by omega) (by omega) | exact fun h => h (nI_lt (by omega) (by omega)) | exact fun h => h (nI_le (by omega) (by omega)) | exact fun h => h (lp_le_cnt _) | exact lp_nle (by omega))
      · have d4 := Int32.not_le.mp c4
        refine lv_aload_n hx hb dX7_permit_31 rfl (lv_at hl 2 rfl) ?_
        refine lv_iload hx hb dX7_permit_32 (lv_at hl 0 rfl) ?_
        refine lv_iload_n hx hb dX7_permit_34 rfl (lv_at hl 3 rfl) ?_
        refine lv_iload_n hx hb dX7_permit_35 rfl (lv_at hl 4 rfl) ?_
        refine lv_iload_n hx hb dX7_permit_36 rfl (lv_at hl 5 rfl) ?_
        refine rd_V (As := [.int (nI k19), .int x, .int y, .int t]) (rest := []) (v := some (.int (nWB f (nI k19) x y t))) S hG (c_X7_needWouldBe l G A f g H hR (nI k19) x y t) gX7_permit_X7_needWouldBe rfl ⟨rfl, rfl⟩ nmX7_needWouldBe ⟨Nat.le_of_ble_eq_true rfl, Nat.le_of_ble_eq_true rfl⟩ (rd_rcv hG.1 (rP_0 hR) rfl) rfl hl.1 rfl (Nat.le_of_ble_eq_true rfl) ⟨Nat.zero_le _, Nat.zero_le _⟩ dX7_permit_37 ?_
        refine W.eq (g2 := F0 mZ 40 ls [.int (nWB f (nI k19) x y t)]) rfl ?_
        refine lv_aload_n hx hb dX7_permit_40 rfl (lv_at hl 2 rfl) ?_
        refine lv_iload hx hb dX7_permit_41 (lv_at hl 0 rfl) ?_
        refine lv_iload hx hb dX7_permit_43 (lv_at hl 6 rfl) ?_
        refine lv_iload hx hb dX7_permit_45 (lv_at hl 7 rfl) ?_
        refine rd_V (As := [.int (nI k19), .int a, .int b]) (rest := [.int (nWB f (nI k19) x y t)]) (v := some (.int (hTK f g (nI k19) (cnt a) (laOf b)))) S hG (c_X7_heightToKeep l G A f g H hR (nI k19) a b hpl.1.1 hpl.2.1 hpl.2.2 hpl.1.2) gX7_permit_X7_heightToKeep rfl ⟨rfl, rfl⟩ nmX7_heightToKeep ⟨Nat.le_of_ble_eq_true rfl, Nat.le_of_ble_eq_true rfl⟩ (rd_rcv hG.1 (rP_0 hR) rfl) rfl hl.1 rfl (Nat.le_of_ble_eq_true rfl) ⟨Nat.zero_le _, Nat.zero_le _⟩ dX7_permit_47 ?_
        refine W.eq (g2 := F0 mZ 50 ls [.int (hTK f g (nI k19) (cnt a) (laOf b)), .int (nWB f (nI k19) x y t)]) rfl ?_
        refine lv_icmp_le (tgt := 62) hx hb dX7_permit_50 (by decide) (fun c5 => ?_) (fun c5 => ?_)
        · have d5 := Int32.not_lt.mpr c5
          refine lv_iinc (v := nI (k19 + 1)) (lv' := [(7, .int (nI (k19 + 1))), (6, .int z19_6), (0, .ref (A 0)), (1, .int x), (2, .int y), (3, .int t), (4, .int a), (5, .int b)]) hx hb dX7_permit_62 hl (k := 0) rfl (nI_inc _) (by decide) rfl (fun ls hl => ?_)
          refine lv_goto (tgt := 19) hx hb dX7_permit_65 (by decide) ?_
          exact ih19 (k19 + 1) (by omega) _ (by subst ez19_6; first | rfl | (simp only [fl, prm, k1, k2, c4, d4, c5, d5, ne_eq, not_true_eq_false, not_false_eq_true, and_true, true_and, and_false, false_and, or_true, true_or, or_false, false_or, and_self, or_self, decide_eq_true_eq, ↓reduceIte]; done) | (simp [fl, prm, k1, k2, c4, d4, c5, d5]; done) | (simp only [fl, prm, k1, k2, c4, d4, c5, d5, ne_eq, not_true_eq_false, not_false_eq_true, and_true, true_and, and_false, false_and, or_true, true_or, or_false, false_or, and_self, or_self, decide_eq_true_eq, ↓reduceIte])) ls (lv_sub hl [0, 1, 2, 3, 4, 5, 6, 7] rfl)
        · have d5 := Int32.not_le.mp c5
          refine lv_iload hx hb dX7_permit_53 (lv_at hl 1 rfl) ?_
          refine lv_iconst (v := 1) hx hb dX7_permit_55 (by decide) ?_
          refine lv_iload hx hb dX7_permit_56 (lv_at hl 0 rfl) ?_
          refine lv_ishl hx hb dX7_permit_58 ?_
          refine lv_ior hx hb dX7_permit_59 ?_
          refine lv_topi (fun x6 ex6 => ?_)
          refine lv_istore (lv' := [(6, .int x6), (7, .int (nI k19)), (0, .ref (A 0)), (1, .int x), (2, .int y), (3, .int t), (4, .int a), (5, .int b)]) hx hb dX7_permit_60 hl (by decide) rfl (fun ls hl => ?_)
          refine lv_iinc (v := nI (k19 + 1)) (lv' := [(7, .int (nI (k19 + 1))), (6, .int x6), (0, .ref (A 0)), (1, .int x), (2, .int y), (3, .int t), (4, .int a), (5, .int b)]) hx hb dX7_permit_62 hl (k := 1) rfl (nI_inc _) (by decide) rfl (fun ls hl => ?_)
          refine lv_goto (tgt := 19) hx hb dX7_permit_65 (by decide) ?_
          exact ih19 (k19 + 1) (by omega) _ (by subst ex6; subst ez19_6; first | rfl | (simp only [fl, prm, k1, k2, c4, d4, c5, d5, ne_eq, not_true_eq_false, not_false_eq_true, and_true, true_and, and_false, false_and, or_true, true_or, or_false, false_or, and_self, or_self, decide_eq_true_eq, ↓reduceIte]; done) | (simp [fl, prm, k1, k2, c4, d4, c5, d5]; done) | (simp only [fl, prm, k1, k2, c4, d4, c5, d5, ne_eq, not_true_eq_false, not_false_eq_true, and_true, true_and, and_false, false_and, or_true, true_or, or_false, false_or, and_self, or_self, decide_eq_true_eq, ↓reduceIte])) ls (lv_sub hl [0, 1, 2, 3, 4, 5, 6, 7] rfl)
  exact loop19 (g 3) 0 (by omega) _ (by first | rfl | (simp only [fl, prm, k1, k2, ne_eq, not_true_eq_false, not_false_eq_true, and_true, true_and, and_false, false_and, or_true, true_or, or_false, false_or, and_self, or_self, decide_eq_true_eq, ↓reduceIte]; done) | (simp [fl, prm, k1, k2]; done) | (simp only [fl, prm, k1, k2, ne_eq, not_true_eq_false, not_false_eq_true, and_true, true_and, and_false, false_and, or_true, true_or, or_false, false_or, and_self, or_self, decide_eq_true_eq, ↓reduceIte])) ls (lv_sub hl [0, 1, 2, 3, 4, 5, 6, 7] rfl)
