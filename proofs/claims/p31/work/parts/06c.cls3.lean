set_option maxHeartbeats 1000000 in
set_option maxRecDepth 100000 in
theorem c_X7_highest (l : Launch) (G : GT) (hlf : l.stackTraces = false) (A : Nat → Nat) (f : Nat → Nat → Int32) (g : Nat → Nat) (H : Heap) (hR : RP G A f g H) (x y a b : Int32) : RxV l G H yX7_highest wsX7_highest { frames := 9, cells := 1, slots := 6, locals := 147 } [.ref (A 0), .int x, .int y, .int a, .int b] (koPl x y a b) (some (.int (nI (hiT f g x y a b)))) := by
  refine rx_of (cc := cX7_highest) (maxL := 8) (ret := (some .int)) (by decide) rfl (Nat.le_of_ble_eq_true rfl) ?_
  intro pZ eZ sZ mZ bZ meZ cZ ls S hr hlk hxt hl hHs hG
  have S : CallFix pZ mZ cZ cX7_highest 8 sZ _ wsX7_highest RX7 := S
  have hx := S.1
  have hb := S.2.1
  have hown := S.2.2.2.1
  have hts := S.2.2.2.2
  have hl : lv_has ls 8 [(0, .ref (A 0)), (1, .int x), (2, .int y), (3, .int a), (4, .int b)] := hl
  have w0 := hts (.fieldLink RX7 26 "MinimaRoom" "procedures" "LMinimaRoom$Procedures;") (by decide +kernel)
  have iX7 : ∀ w ∈ u_ws RX7 TX7 8, w ∈ wsX7_highest := by decide +kernel
  have iX5 : ∀ w ∈ u_ws RX5 TX5 3, w ∈ wsX7_highest := by decide +kernel
  have hgb := hR.1
  have hg3 := hgb 3
  refine lv_iload_n hx hb dX7_highest_0 rfl (lv_at hl 1 rfl) ?_
  refine lv_iload_n hx hb dX7_highest_1 rfl (lv_at hl 2 rfl) ?_
  refine lv_iload_n hx hb dX7_highest_2 rfl (lv_at hl 3 rfl) ?_
  refine lv_iload hx hb dX7_highest_3 (lv_at hl 4 rfl) ?_
  refine rx_S (As := [.int x, .int y, .int a, .int b]) (rest := []) (v := none) S hG (c_X7_requirePlace l G hlf H x y a b) gX7_highest_X7_requirePlace rfl ⟨rfl, rfl⟩ nmX7_requirePlace ⟨Nat.le_of_ble_eq_true rfl, Nat.le_of_ble_eq_true rfl⟩ rfl hl.1 rfl (Nat.le_of_ble_eq_true rfl) ⟨Nat.le_of_ble_eq_true rfl, Nat.le_of_ble_eq_true rfl⟩ dX7_highest_5 hxt hlk ⟨Nat.le_of_ble_eq_true rfl, Nat.le_of_ble_eq_true rfl⟩ (fun E t hE hext => ⟨by first | rfl | (simp only [hiW, hiT, hE, kOr, ne_eq, not_true_eq_false, not_false_eq_true, and_true, true_and, and_false, false_and, or_true, true_or, or_false, false_or, and_self, or_self, decide_eq_true_eq, ↓reduceIte]; done) | (simp only [hiW, hiT, hE, kOr, ne_eq, not_true_eq_false, not_false_eq_true, and_true, true_and, and_false, false_and, or_true, true_or, or_false, false_or, and_self, or_self, decide_eq_true_eq, ↓reduceIte]; done) | (simp [hiW, hiT, hE, kOr]; done) | (simp only [hiW, hiT, hE, kOr, ne_eq, not_true_eq_false, not_false_eq_true, and_true, true_and, and_false, false_and, or_true, true_or, or_false, false_or, and_self, or_self, decide_eq_true_eq, ↓reduceIte]), hext⟩) (fun k1 => ?_)
  refine W.eq (g2 := F0 mZ 8 ls []) rfl ?_
  have hpl := koPl_c k1
  refine lv_sipush (v := 999) hx hb dX7_highest_8 (by decide) ?_
  refine lv_istore (lv' := [(5, .int 999), (0, .ref (A 0)), (1, .int x), (2, .int y), (3, .int a), (4, .int b)]) hx hb dX7_highest_11 hl (by decide) rfl (fun ls hl => ?_)
  refine lv_iconst (v := 0) hx hb dX7_highest_13 (by decide) ?_
  refine lv_istore (lv' := [(6, .int 0), (5, .int 999), (0, .ref (A 0)), (1, .int x), (2, .int y), (3, .int a), (4, .int b)]) hx hb dX7_highest_14 hl (by decide) rfl (fun ls hl => ?_)
  have loop16 : ∀ (n16 k16 : Nat), k16 + n16 = g 3 → ∀ (z16_5 : Int32), z16_5 = nI (fl k16 (fun j t => hiW f (nI j) x y (hTK f g (nI j) (cnt a) (laOf b)) t) 999) → ∀ (ls : Array Slot), lv_has ls 8 [(6, .int (nI k16)), (5, .int z16_5), (0, .ref (A 0)), (1, .int x), (2, .int y), (3, .int a), (4, .int b)] → W pZ l eZ ({ frames := 9, cells := 1, slots := 6, locals := 147 } : Room) sZ mZ ([.ref (A 0), .int x, .int y, .int a, .int b] : List Value).toArray bZ meZ cZ H [] 0 0 (rx_Q bZ H [.ref (A 0), .int x, .int y, .int a, .int b] sZ (koPl x y a b) (some (.int (nI (hiT f g x y a b))))) (F0 mZ 16 ls []) := by
    intro n16
    induction n16 with
    | zero =>
      intro k16 hk16 z16_5 ez16_5 ls hl
      obtain rfl : k16 = g 3 := by omega
      refine lv_iload hx hb dX7_highest_16 (lv_at hl 0 rfl) ?_
      refine lv_aload_n hx hb dX7_highest_18 rfl (lv_at hl 2 rfl) ?_
      refine rd_get (own := RX7) (x := .ref (A 3)) S hG.1 iX7 (rP_0 hR) 2 rfl (by decide) w0 rfl dX7_highest_19 ?_
      refine rd_getN (own := RX7) (x := .int (nI (g 3))) S hG.1 iX5 (rP_3 hR) 2 rfl (by decide) nest_124 rfl dX7_highest_22 ?_
      refine lv_icmp_ge (tgt := 71) hx hb dX7_highest_25 (by decide) (fun c2 => ?_) (fun c2 => ?_)
      · have d2 := Int32.not_lt.mpr c2
        refine lv_iload hx hb dX7_highest_71 (lv_at hl 1 rfl) ?_
        exact rx_iret S hr hlk dX7_highest_73 (by subst ez16_5; first | rfl | (simp only [hiW, hiT, k1, kOr, ne_eq, not_true_eq_false, not_false_eq_true, and_true, true_and, and_false, false_and, or_true, true_or, or_false, false_or, and_self, or_self, decide_eq_true_eq, ↓reduceIte]; done) | (simp only [hiW, hiT, k1, c2, d2, kOr, ne_eq, not_true_eq_false, not_false_eq_true, and_true, true_and, and_false, false_and, or_true, true_or, or_false, false_or, and_self, or_self, decide_eq_true_eq, ↓reduceIte]; done) | (simp [hiW, hiT, k1, c2, d2, kOr]; done) | (simp only [hiW, hiT, k1, c2, d2, kOr, ne_eq, not_true_eq_false, not_false_eq_true, and_true, true_and, and_false, false_and, or_true, true_or, or_false, false_or, and_self, or_self, decide_eq_true_eq, ↓reduceIte])) (congrArg (fun z => some (Value.int z)) (by subst ez16_5; first | rfl | (simp only [hiW, hiT, k1, c2, d2, ne_eq, not_true_eq_false, not_false_eq_true, and_true, true_and, and_false, false_and, or_true, true_or, or_false, false_or, and_self, or_self, decide_eq_true_eq, ↓reduceIte]; done) | (simp [hiW, hiT, k1, c2, d2]; done) | (simp only [hiW, hiT, k1, c2, d2, ne_eq, not_true_eq_false, not_false_eq_true, and_true, true_and, and_false, false_and, or_true, true_or, or_false, false_or, and_self, or_self, decide_eq_true_eq, ↓reduceIte])))
      · exact absurd c2 (by first | exact fun h => absurd (Int32.le_refl _) h | exact nI_nlt (by omega) (by omega) | exact nI_ge (by omega) (by omega) | exact fun h => h (nI_lt (by omega) (by omega)) | exact fun h => h (nI_le (by omega) (by omega)) | exact fun h => h (lp_le_cnt _) | exact lp_nle (by omega))
    | succ n16 ih16 =>
      intro k16 hk16 z16_5 ez16_5 ls hl
      refine lv_iload hx hb dX7_highest_16 (lv_at hl 0 rfl) ?_
      refine lv_aload_n hx hb dX7_highest_18 rfl (lv_at hl 2 rfl) ?_
      refine rd_get (own := RX7) (x := .ref (A 3)) S hG.1 iX7 (rP_0 hR) 2 rfl (by decide) w0 rfl dX7_highest_19 ?_
      refine rd_getN (own := RX7) (x := .int (nI (g 3))) S hG.1 iX5 (rP_3 hR) 2 rfl (by decide) nest_124 rfl dX7_highest_22 ?_
      refine lv_icmp_ge (tgt := 71) hx hb dX7_highest_25 (by decide) (fun c3 => ?_) (fun c3 => ?_)
      · exact absurd c3 (by first | exact fun h => absurd (Int32.le_refl _) h | exact nI_nlt (by omega) (by omega) | exact nI_ge (by omega) (by omega) | exact fun h => h (nI_lt (by omega) (by omega)) | exact fun h => h (nI_le (by omega) (by omega)) | exact fun h => h (lp_le_cnt _) | exact lp_nle (by omega))
      · have d3 := Int32.not_le.mp c3
        refine lv_aload_n hx hb dX7_highest_28 rfl (lv_at hl 2 rfl) ?_
        refine lv_iload hx hb dX7_highest_29 (lv_at hl 0 rfl) ?_
        refine lv_iload_n hx hb dX7_highest_31 rfl (lv_at hl 5 rfl) ?_
        refine lv_iload hx hb dX7_highest_32 (lv_at hl 6 rfl) ?_
        refine rd_V (As := [.int (nI k16), .int a, .int b]) (rest := []) (v := some (.int (hTK f g (nI k16) (cnt a) (laOf b)))) S hG (c_X7_heightToKeep l G A f g H hR (nI k16) a b hpl.1.1 hpl.2.1 hpl.2.2 hpl.1.2) gX7_highest_X7_heightToKeep rfl ⟨rfl, rfl⟩ nmX7_heightToKeep ⟨Nat.le_of_ble_eq_true rfl, Nat.le_of_ble_eq_true rfl⟩ (rd_rcv hG.1 (rP_0 hR) rfl) rfl hl.1 rfl (Nat.le_of_ble_eq_true rfl) ⟨Nat.zero_le _, Nat.zero_le _⟩ dX7_highest_34 ?_
        refine W.eq (g2 := F0 mZ 37 ls [.int (hTK f g (nI k16) (cnt a) (laOf b))]) rfl ?_
        refine lv_topi (fun x4 ex4 => ?_)
        refine lv_istore (lv' := [(7, .int x4), (6, .int (nI k16)), (5, .int z16_5), (0, .ref (A 0)), (1, .int x), (2, .int y), (3, .int a), (4, .int b)]) hx hb dX7_highest_37 hl (by decide) rfl (fun ls hl => ?_)
        subst ez16_5
        have loop39 : ∀ (n39 : Nat), n39 ≤ fl k16 (fun j t => hiW f (nI j) x y (hTK f g (nI j) (cnt a) (laOf b)) t) 999 → hiW f (nI k16) x y x4 (fl k16 (fun j t => hiW f (nI j) x y (hTK f g (nI j) (cnt a) (laOf b)) t) 999) = hiW f (nI k16) x y x4 n39 → ∀ (ls : Array Slot), lv_has ls 8 [(5, .int (nI n39)), (0, .ref (A 0)), (1, .int x), (2, .int y), (3, .int a), (4, .int b), (6, .int (nI k16)), (7, .int x4)] → W pZ l eZ ({ frames := 9, cells := 1, slots := 6, locals := 147 } : Room) sZ mZ ([.ref (A 0), .int x, .int y, .int a, .int b] : List Value).toArray bZ meZ cZ H [] 0 0 (rx_Q bZ H [.ref (A 0), .int x, .int y, .int a, .int b] sZ (koPl x y a b) (some (.int (nI (hiT f g x y a b))))) (F0 mZ 39 ls []) := by
          intro n39
          induction n39 with
          | zero =>
            intro hk39  inv39 ls hl
            have hl : lv_has ls 8 [(5, .int (nI 0)), (0, .ref (A 0)), (1, .int x), (2, .int y), (3, .int a), (4, .int b), (6, .int (nI k16)), (7, .int x4)] := hl
            refine lv_iload hx hb dX7_highest_39 (lv_at hl 0 rfl) ?_
            refine lv_if_le (tgt := 65) hx hb dX7_highest_41 (by decide) (fun c5 => ?_) (fun c5 => ?_)
            · have d5 := Int32.not_lt.mpr c5
              refine lv_iinc (v := nI (k16 + 1)) (lv' := [(6, .int (nI (k16 + 1))), (5, .int (nI 0)), (0, .ref (A 0)), (1, .int x), (2, .int y), (3, .int a), (4, .int b), (7, .int x4)]) hx hb dX7_highest_65 hl (k := 6) rfl (nI_inc _) (by decide) rfl (fun ls hl => ?_)
              refine lv_goto (tgt := 16) hx hb dX7_highest_68 (by decide) ?_
              exact ih16 (k16 + 1) (by omega) _ (by subst ex4; exact congrArg nI (inv39.trans rfl).symm) ls (lv_sub hl [0, 1, 2, 3, 4, 5, 6] rfl)
            · exact absurd (by decide) c5
          | succ n39 ih39 =>
            intro hk39  inv39 ls hl
            have hl : lv_has ls 8 [(5, .int (nI (n39 + 1))), (0, .ref (A 0)), (1, .int x), (2, .int y), (3, .int a), (4, .int b), (6, .int (nI k16)), (7, .int x4)] := hl
            refine lv_iload hx hb dX7_highest_39 (lv_at hl 0 rfl) ?_
            refine lv_if_le (tgt := 65) hx hb dX7_highest_41 (by decide) (fun c6 => ?_) (fun c6 => ?_)
            · exact absurd c6 (by have hle := hiF_le f g x y a b k16; exact nI_nle (by omega) (by omega))
            · have d6 := Int32.not_le.mp c6
              refine lv_aload_n hx hb dX7_highest_44 rfl (lv_at hl 1 rfl) ?_
              refine lv_iload hx hb dX7_highest_45 (lv_at hl 6 rfl) ?_
              refine lv_iload_n hx hb dX7_highest_47 rfl (lv_at hl 2 rfl) ?_
              refine lv_iload_n hx hb dX7_highest_48 rfl (lv_at hl 3 rfl) ?_
              refine lv_iload hx hb dX7_highest_49 (lv_at hl 0 rfl) ?_
              refine rd_V (As := [.int (nI k16), .int x, .int y, .int (nI (n39 + 1))]) (rest := []) (v := some (.int (nWB f (nI k16) x y (nI (n39 + 1))))) S hG (c_X7_needWouldBe l G A f g H hR (nI k16) x y (nI (n39 + 1))) gX7_highest_X7_needWouldBe rfl ⟨rfl, rfl⟩ nmX7_needWouldBe ⟨Nat.le_of_ble_eq_true rfl, Nat.le_of_ble_eq_true rfl⟩ (rd_rcv hG.1 (rP_0 hR) rfl) rfl hl.1 rfl (Nat.le_of_ble_eq_true rfl) ⟨Nat.zero_le _, Nat.zero_le _⟩ dX7_highest_51 ?_
              refine W.eq (g2 := F0 mZ 54 ls [.int (nWB f (nI k16) x y (nI (n39 + 1)))]) rfl ?_
              refine lv_iload hx hb dX7_highest_54 (lv_at hl 7 rfl) ?_
              refine lv_icmp_le (tgt := 65) hx hb dX7_highest_56 (by decide) (fun c7 => ?_) (fun c7 => ?_)
              · have d7 := Int32.not_lt.mpr c7
                refine lv_iinc (v := nI (k16 + 1)) (lv' := [(6, .int (nI (k16 + 1))), (5, .int (nI (n39 + 1))), (0, .ref (A 0)), (1, .int x), (2, .int y), (3, .int a), (4, .int b), (7, .int x4)]) hx hb dX7_highest_65 hl (k := 6) rfl (nI_inc _) (by decide) rfl (fun ls hl => ?_)
                refine lv_goto (tgt := 16) hx hb dX7_highest_68 (by decide) ?_
                exact ih16 (k16 + 1) (by omega) _ (by subst ex4; exact congrArg nI (inv39.trans (by simp only [hiW, hiW, hiT, k1, c3, d3, c6, d6, c7, d7, ↓reduceIte])).symm) ls (lv_sub hl [0, 1, 2, 3, 4, 5, 6] rfl)
              · have d7 := Int32.not_le.mp c7
                refine lv_iinc (v := nI n39) (lv' := [(5, .int (nI n39)), (0, .ref (A 0)), (1, .int x), (2, .int y), (3, .int a), (4, .int b), (6, .int (nI k16)), (7, .int x4)]) hx hb dX7_highest_59 hl (k := 0) rfl (nI_dec _) (by decide) rfl (fun ls hl => ?_)
                refine lv_goto (tgt := 39) hx hb dX7_highest_62 (by decide) ?_
                exact ih39 (by omega) (inv39.trans (by subst ex4; first | rfl | (simp only [fl, hiW, hiT, k1, c3, d3, c6, d6, c7, d7, ne_eq, not_true_eq_false, not_false_eq_true, and_true, true_and, and_false, false_and, or_true, true_or, or_false, false_or, and_self, or_self, decide_eq_true_eq, ↓reduceIte]; done) | (simp [fl, hiW, hiT, k1, c3, d3, c6, d6, c7, d7]; done) | (simp only [fl, hiW, hiT, k1, c3, d3, c6, d6, c7, d7, ne_eq, not_true_eq_false, not_false_eq_true, and_true, true_and, and_false, false_and, or_true, true_or, or_false, false_or, and_self, or_self, decide_eq_true_eq, ↓reduceIte]))) ls (lv_sub hl [0, 1, 2, 3, 4, 5, 6, 7] rfl)
        exact loop39 (fl k16 (fun j t => hiW f (nI j) x y (hTK f g (nI j) (cnt a) (laOf b)) t) 999) (by omega) (by rfl) ls (lv_sub hl [2, 3, 4, 5, 6, 7, 1, 0] rfl)
  exact loop16 (g 3) 0 (by omega) _ (by rfl) ls (lv_sub hl [0, 1, 2, 3, 4, 5, 6] rfl)
