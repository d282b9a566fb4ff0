/-! who is harmed, by the reference -/
def mDS (f : Nat → Nat → Int32) (g : Nat → Nat) (x y t a b : Int32) (i : Nat) (d : Int32) : Int32 := dmd (fM f (g 1) x y t) f i (g 1 + 1) (pM f g d (-1) a b)
def mHI (f : Nat → Nat → Int32) (g : Nat → Nat) (x y t a b : Int32) (sf : Nat → Nat → Int32) (i : Nat) : Nat → Nat → Int32 → Int32
  | 0, _, s => s
  | n + 1, j, s => if ¬ (s >>> (nI i &&& 31)) &&& 1 = 0 then s else mHI f g x y t a b sf i n (j + 1) (if ¬ sf i (g 0 + j) = -1 ∧ sf i (g 0 + j) < mDS f g x y t a b i (nI (g 0 + j)) then s ||| (1 <<< (nI i &&& 31)) else s)
theorem mHI_x {f : Nat → Nat → Int32} {g : Nat → Nat} {x y t a b : Int32} {sf : Nat → Nat → Int32} {i n j : Nat} {s : Int32} (h : ¬ (s >>> (nI i &&& 31)) &&& 1 = 0) : mHI f g x y t a b sf i n j s = s := by
  cases n with
  | zero => rfl
  | succ n => exact if_pos h
def mHa (f : Nat → Nat → Int32) (g : Nat → Nat) (x y t a b : Int32) (sf : Nat → Nat → Int32) : Int32 := fl (g 3) (fun j s => mHI f g x y t a b sf j (400 - g 0) 0 s) 0
theorem nmX11_harmed : nmV yX11_harmed RX11 2 := by decide +kernel

set_option maxHeartbeats 1000000 in
set_option maxRecDepth 100000 in
theorem c_X11_harmed (l : Launch) (G : GT) (B : Nat → Nat) (th : Int32) (mc : Nat → Int32) (cp : Nat → Nat) (f : Nat → Nat → Int32) (g : Nat → Nat) (H : Heap) (hM : MP G B th mc cp f g H) (o : Nat) (x y t a b : Int32) (ho : va_at G.1 vwCl (o, .inr (10, [.int x, .int y, .int t, .int a, .int b])) H) (sa : Nat) (r : Nat → Nat) (sf : Nat → Nat → Int32) (hsa : va_at G.1 vwCl (sa, .inl (G.2.1 2, gRef (g 3) (fun i => if i < g 3 then some (r i) else none))) H) (hrow : ∀ i, i < g 3 → va_at G.1 vwCl (r i, .inl (G.2.1 0, 400, .inl (sf i))) H) : RdV l G H yX11_harmed wsX11_harmed { frames := 5, cells := 0, slots := 0, locals := 120 } [.ref (B 0), .ref o, .ref sa] (some (.int (mHa f g x y t a b sf))) := by
  refine rd_of (cc := cX11_harmed) (maxL := 6) (ret := (some .int)) (by decide) rfl (Nat.le_of_ble_eq_true rfl) ?_
  intro pZ eZ sZ mZ bZ meZ cZ ls S hr hlk hl hHs hG
  have S : CallFix pZ mZ cZ cX11_harmed 6 sZ _ wsX11_harmed RX11 := S
  have hx := S.1
  have hb := S.2.1
  have hown := S.2.2.2.1
  have hts := S.2.2.2.2
  have hl : lv_has ls 6 [(0, .ref (B 0)), (1, .ref o), (2, .ref sa)] := hl
  have w0 := hts (.fieldLink RX11 156 "MinimaRoomModel" "now" "I") (by decide +kernel)
  have iX11 : ∀ w ∈ u_ws RX11 TX11 11, w ∈ wsX11_harmed := by decide +kernel
  have hI := hM.1
  have hgb := hI.1.1
  have hg0 := hI.1.2.1
  have hg1 := hI.1.2.2.1
  have hg3 := hI.1.2.2.2.1
  have hg4 := hI.1.2.2.2.2.1
  have hg5 := hI.1.2.2.2.2.2
  refine lv_iconst (v := 0) hx hb dX11_harmed_0 (by decide) ?_
  refine lv_istore_n (lv' := [(3, .int 0), (0, .ref (B 0)), (1, .ref o), (2, .ref sa)]) hx hb dX11_harmed_1 rfl hl (by decide) rfl (fun ls hl => ?_)
  refine lv_iconst (v := 0) hx hb dX11_harmed_2 (by decide) ?_
  refine lv_istore (lv' := [(4, .int 0), (3, .int 0), (0, .ref (B 0)), (1, .ref o), (2, .ref sa)]) hx hb dX11_harmed_3 hl (by decide) rfl (fun ls hl => ?_)
  have loop5 : ∀ (n5 k5 : Nat), k5 + n5 = g 3 → ∀ (z5_3 : Int32), z5_3 = fl k5 (fun j s => mHI f g x y t a b sf j (400 - g 0) 0 s) 0 → ∀ (ls : Array Slot), lv_has ls 6 [(4, .int (nI k5)), (3, .int z5_3), (0, .ref (B 0)), (1, .ref o), (2, .ref sa)] → W pZ l eZ ({ frames := 5, cells := 0, slots := 0, locals := 120 } : Room) sZ mZ ([.ref (B 0), .ref o, .ref sa] : List Value).toArray bZ meZ cZ H [] 0 0 (rd_Q bZ H [.ref (B 0), .ref o, .ref sa] sZ (some (.int (mHa f g x y t a b sf)))) (F0 mZ 5 ls []) := by
    intro n5
    induction n5 with
    | zero =>
      intro k5 hk5 z5_3 ez5_3 ls hl
      obtain rfl : k5 = g 3 := by omega
      refine lv_iload hx hb dX11_harmed_5 (lv_at hl 0 rfl) ?_
      refine lv_aload_n hx hb dX11_harmed_7 rfl (lv_at hl 4 rfl) ?_
      refine mw_alen S hG.1 hsa dX11_harmed_8 ?_
      refine lv_icmp_ge (tgt := 85) hx hb dX11_harmed_9 (by decide) (fun c1 => ?_) (fun c1 => ?_)
      · have d1 := Int32.not_lt.mpr c1
        refine lv_iload_n hx hb dX11_harmed_85 rfl (lv_at hl 1 rfl) ?_
        exact rd_iret S hr hlk dX11_harmed_86 (congrArg (fun z => some (Value.int z)) (by subst ez5_3; first | rfl | (simp only [mHa, mHI, c1, d1, ne_eq, not_true_eq_false, not_false_eq_true, and_true, true_and, and_false, false_and, or_true, true_or, or_false, false_or, and_self, or_self, decide_eq_true_eq, ↓reduceIte]; done) | (simp [mHa, mHI, c1, d1]; done) | (simp only [mHa, mHI, c1, d1, ne_eq, not_true_eq_false, not_false_eq_true, and_true, true_and, and_false, false_and, or_true, true_or, or_false, false_or, and_self, or_self, decide_eq_true_eq, ↓reduceIte])))
      · exact absurd (nI_le (by omega) (by omega)) c1
    | succ n5 ih5 =>
      intro k5 hk5 z5_3 ez5_3 ls hl
      refine lv_iload hx hb dX11_harmed_5 (lv_at hl 0 rfl) ?_
      refine lv_aload_n hx hb dX11_harmed_7 rfl (lv_at hl 4 rfl) ?_
      refine mw_alen S hG.1 hsa dX11_harmed_8 ?_
      refine lv_icmp_ge (tgt := 85) hx hb dX11_harmed_9 (by decide) (fun c2 => ?_) (fun c2 => ?_)
      · exact absurd c2 (nI_ge (by omega) (by omega))
      · have d2 := Int32.not_le.mp c2
        refine lv_aload_n hx hb dX11_harmed_12 rfl (lv_at hl 2 rfl) ?_
        refine rd_get (own := RX11) (x := .int (nI (g 0))) S hG.1 iX11 (mP_0 hM) 1 rfl (by decide) w0 rfl dX11_harmed_13 ?_
        refine lv_istore (lv' := [(5, .int (nI (g 0))), (4, .int (nI k5)), (3, .int z5_3), (0, .ref (B 0)), (1, .ref o), (2, .ref sa)]) hx hb dX11_harmed_16 hl (by decide) rfl (fun ls hl => ?_)
        have loop18 : ∀ (n18 k18 : Nat), k18 + n18 = 400 - g 0 → ∀ (z18_3 : Int32),  mHI f g x y t a b sf k5 (400 - g 0) 0 z5_3 = mHI f g x y t a b sf k5 n18 k18 z18_3 → ∀ (ls : Array Slot), lv_has ls 6 [(5, .int (nI (g 0 + k18))), (3, .int z18_3), (0, .ref (B 0)), (1, .ref o), (2, .ref sa), (4, .int (nI k5))] → W pZ l eZ ({ frames := 5, cells := 0, slots := 0, locals := 120 } : Room) sZ mZ ([.ref (B 0), .ref o, .ref sa] : List Value).toArray bZ meZ cZ H [] 0 0 (rd_Q bZ H [.ref (B 0), .ref o, .ref sa] sZ (some (.int (mHa f g x y t a b sf)))) (F0 mZ 18 ls []) := by
          intro n18
          induction n18 with
          | zero =>
            intro k18 hk18 z18_3 inv18 ls hl
            obtain rfl : k18 = 400 - g 0 := by omega
            refine lv_iload hx hb dX11_harmed_18 (lv_at hl 0 rfl) ?_
            refine lv_sipush (v := 399) hx hb dX11_harmed_20 (by decide) ?_
            refine lv_icmp_gt (tgt := 79) hx hb dX11_harmed_23 (by decide) (fun c3 => ?_) (fun c3 => ?_)
            · have d3 := Int32.not_le.mpr c3
              refine lv_iinc (v := nI (k5 + 1)) (lv' := [(4, .int (nI (k5 + 1))), (5, .int (nI (g 0 + (400 - g 0)))), (3, .int z18_3), (0, .ref (B 0)), (1, .ref o), (2, .ref sa)]) hx hb dX11_harmed_79 hl (k := 5) rfl (nI_inc _) (by decide) rfl (fun ls hl => ?_)
              refine lv_goto (tgt := 5) hx hb dX11_harmed_82 (by decide) ?_
              exact ih5 (k5 + 1) (by omega) _ (by subst ez5_3; exact inv18.symm) ls (lv_sub hl [0, 2, 3, 4, 5] rfl)
            · have c3 : ¬ (nI 399 < nI (g 0 + (400 - g 0))) := c3; exact absurd (nI_lt (by omega) (by omega)) c3
          | succ n18 ih18 =>
            intro k18 hk18 z18_3 inv18 ls hl
            refine lv_iload hx hb dX11_harmed_18 (lv_at hl 0 rfl) ?_
            refine lv_sipush (v := 399) hx hb dX11_harmed_20 (by decide) ?_
            refine lv_icmp_gt (tgt := 79) hx hb dX11_harmed_23 (by decide) (fun c4 => ?_) (fun c4 => ?_)
            · have c4 : nI 399 < nI (g 0 + k18) := c4; exact absurd c4 (nI_nlt (by omega) (by omega))
            · have d4 := Int32.not_lt.mp c4
              refine lv_iload_n hx hb dX11_harmed_26 rfl (lv_at hl 1 rfl) ?_
              refine lv_iload hx hb dX11_harmed_27 (lv_at hl 5 rfl) ?_
              refine lv_ishr hx hb dX11_harmed_29 ?_
              refine lv_iconst (v := 1) hx hb dX11_harmed_30 (by decide) ?_
              refine lv_iand hx hb dX11_harmed_31 ?_
              refine lv_if_ne (tgt := 79) hx hb dX11_harmed_32 (by decide) (fun c5 => ?_) (fun c5 => ?_)
              · refine lv_iinc (v := nI (k5 + 1)) (lv' := [(4, .int (nI (k5 + 1))), (5, .int (nI (g 0 + k18))), (3, .int z18_3), (0, .ref (B 0)), (1, .ref o), (2, .ref sa)]) hx hb dX11_harmed_79 hl (k := 5) rfl (nI_inc _) (by decide) rfl (fun ls hl => ?_)
                refine lv_goto (tgt := 5) hx hb dX11_harmed_82 (by decide) ?_
                exact ih5 (k5 + 1) (by omega) _ (by subst ez5_3; exact (inv18.trans (mHI_x c5)).symm) ls (lv_sub hl [0, 2, 3, 4, 5] rfl)
              · refine lv_aload_n hx hb dX11_harmed_35 rfl (lv_at hl 4 rfl) ?_
                refine lv_iload hx hb dX11_harmed_36 (lv_at hl 5 rfl) ?_
                refine mw_aald (x := r k5) S hG.1 hsa (vp_in_nI (by omega) (by omega)) (by rw [nI_clamp (by omega)]; exact if_pos (by omega)) dX11_harmed_38 ?_
                refine lv_iload hx hb dX11_harmed_39 (lv_at hl 0 rfl) ?_
                refine rd_iald S hG.1 (hrow k5 (by omega)) (vp_in_nI (by omega) (by decide)) dX11_harmed_41 ?_
                refine W.eq (g2 := F0 mZ 42 ls [.int (sf k5 (g 0 + k18))]) (by rw [nI_clamp (by omega)]) ?_
                refine lv_iconst (v := (-1)) hx hb dX11_harmed_42 (by decide) ?_
                refine lv_icmp_eq (tgt := 73) hx hb dX11_harmed_43 (by decide) (fun c6 => ?_) (fun c6 => ?_)
                · refine lv_iinc (v := nI ((g 0 + k18) + 1)) (lv' := [(5, .int (nI ((g 0 + k18) + 1))), (3, .int z18_3), (0, .ref (B 0)), (1, .ref o), (2, .ref sa), (4, .int (nI k5))]) hx hb dX11_harmed_73 hl (k := 0) rfl (nI_inc _) (by decide) rfl (fun ls hl => ?_)
                  refine lv_goto (tgt := 18) hx hb dX11_harmed_76 (by decide) ?_
                  exact ih18 (k18 + 1) (by omega) _  (inv18.trans (by subst ez5_3; first | rfl | (simp only [fl, mHa, mHI, c2, d2, c4, d4, c5, c6, ne_eq, not_true_eq_false, not_false_eq_true, and_true, true_and, and_false, false_and, or_true, true_or, or_false, false_or, and_self, or_self, decide_eq_true_eq, ↓reduceIte]; done) | (simp only [fl, mHa, mHI, c2, d2, c4, d4, c5, c6, ne_eq, not_true_eq_false, not_false_eq_true, and_true, true_and, and_false, false_and, or_true, true_or, or_false, false_or, and_self, or_self, decide_eq_true_eq, ↓reduceIte]; rfl) | (simp [fl, mHa, mHI, c2, d2, c4, d4, c5, c6]; done) | (simp only [fl, mHa, mHI, c2, d2, c4, d4, c5, c6, ne_eq, not_true_eq_false, not_false_eq_true, and_true, true_and, and_false, false_and, or_true, true_or, or_false, false_or, and_self, or_self, decide_eq_true_eq, ↓reduceIte]))) ls (lv_sub hl [0, 1, 2, 3, 4, 5] rfl)
                · refine lv_aload_n hx hb dX11_harmed_46 rfl (lv_at hl 4 rfl) ?_
                  refine lv_iload hx hb dX11_harmed_47 (lv_at hl 5 rfl) ?_
                  refine mw_aald (x := r k5) S hG.1 hsa (vp_in_nI (by omega) (by omega)) (by rw [nI_clamp (by omega)]; exact if_pos (by omega)) dX11_harmed_49 ?_
                  refine lv_iload hx hb dX11_harmed_50 (lv_at hl 0 rfl) ?_
                  refine rd_iald S hG.1 (hrow k5 (by omega)) (vp_in_nI (by omega) (by decide)) dX11_harmed_52 ?_
                  refine W.eq (g2 := F0 mZ 53 ls [.int (sf k5 (g 0 + k18))]) (by rw [nI_clamp (by omega)]) ?_
                  refine lv_aload_n hx hb dX11_harmed_53 rfl (lv_at hl 2 rfl) ?_
                  refine lv_iload hx hb dX11_harmed_54 (lv_at hl 5 rfl) ?_
                  refine lv_iload hx hb dX11_harmed_56 (lv_at hl 0 rfl) ?_
                  refine lv_iconst (v := (-1)) hx hb dX11_harmed_58 (by decide) ?_
                  refine lv_aload_n hx hb dX11_harmed_59 rfl (lv_at hl 3 rfl) ?_
                  refine rd_V (As := [.int (nI k5), .int (nI (g 0 + k18)), .int (-1), .ref o]) (rest := [.int (sf k5 (g 0 + k18))]) (v := some (.int (mDS f g x y t a b k5 (nI (g 0 + k18))))) S hG (c_X11_demandedNow_s l G B th mc cp f g H hM o x y t a b ho k5 (nI (g 0 + k18)) (-1) (by omega)) gX11_harmed_X11_demandedNow rfl ⟨rfl, rfl⟩ nmX11_demandedNow ⟨Nat.le_of_ble_eq_true rfl, Nat.le_of_ble_eq_true rfl⟩ (rd_rcv hG.1 (mP_0 hM) rfl) rfl hl.1 rfl (Nat.le_of_ble_eq_true rfl) ⟨Nat.zero_le _, Nat.zero_le _⟩ dX11_harmed_60 ?_
                  refine W.eq (g2 := F0 mZ 63 ls [.int (mDS f g x y t a b k5 (nI (g 0 + k18))), .int (sf k5 (g 0 + k18))]) rfl ?_
                  refine lv_icmp_ge (tgt := 73) hx hb dX11_harmed_63 (by decide) (fun c7 => ?_) (fun c7 => ?_)
                  · have d7 := Int32.not_lt.mpr c7
                    refine lv_iinc (v := nI ((g 0 + k18) + 1)) (lv' := [(5, .int (nI ((g 0 + k18) + 1))), (3, .int z18_3), (0, .ref (B 0)), (1, .ref o), (2, .ref sa), (4, .int (nI k5))]) hx hb dX11_harmed_73 hl (k := 0) rfl (nI_inc _) (by decide) rfl (fun ls hl => ?_)
                    refine lv_goto (tgt := 18) hx hb dX11_harmed_76 (by decide) ?_
                    exact ih18 (k18 + 1) (by omega) _  (inv18.trans (by subst ez5_3; first | rfl | (simp only [fl, mHa, mHI, c2, d2, c4, d4, c5, c6, c7, d7, ne_eq, not_true_eq_false, not_false_eq_true, and_true, true_and, and_false, false_and, or_true, true_or, or_false, false_or, and_self, or_self, decide_eq_true_eq, ↓reduceIte]; done) | (simp only [fl, mHa, mHI, c2, d2, c4, d4, c5, c6, c7, d7, ne_eq, not_true_eq_false, not_false_eq_true, and_true, true_and, and_false, false_and, or_true, true_or, or_false, false_or, and_self, or_self, decide_eq_true_eq, ↓reduceIte]; rfl) | (simp [fl, mHa, mHI, c2, d2, c4, d4, c5, c6, c7, d7]; done) | (simp only [fl, mHa, mHI, c2, d2, c4, d4, c5, c6, c7, d7, ne_eq, not_true_eq_false, not_false_eq_true, and_true, true_and, and_false, false_and, or_true, true_or, or_false, false_or, and_self, or_self, decide_eq_true_eq, ↓reduceIte]))) ls (lv_sub hl [0, 1, 2, 3, 4, 5] rfl)
                  · have d7 := Int32.not_le.mp c7
                    refine lv_iload_n hx hb dX11_harmed_66 rfl (lv_at hl 1 rfl) ?_
                    refine lv_iconst (v := 1) hx hb dX11_harmed_67 (by decide) ?_
                    refine lv_iload hx hb dX11_harmed_68 (lv_at hl 5 rfl) ?_
                    refine lv_ishl hx hb dX11_harmed_70 ?_
                    refine lv_ior hx hb dX11_harmed_71 ?_
                    refine lv_topi (fun x8 ex8 => ?_)
                    refine lv_istore_n (lv' := [(3, .int x8), (5, .int (nI (g 0 + k18))), (0, .ref (B 0)), (1, .ref o), (2, .ref sa), (4, .int (nI k5))]) hx hb dX11_harmed_72 rfl hl (by decide) rfl (fun ls hl => ?_)
                    refine lv_iinc (v := nI ((g 0 + k18) + 1)) (lv' := [(5, .int (nI ((g 0 + k18) + 1))), (3, .int x8), (0, .ref (B 0)), (1, .ref o), (2, .ref sa), (4, .int (nI k5))]) hx hb dX11_harmed_73 hl (k := 1) rfl (nI_inc _) (by decide) rfl (fun ls hl => ?_)
                    refine lv_goto (tgt := 18) hx hb dX11_harmed_76 (by decide) ?_
                    exact ih18 (k18 + 1) (by omega) _  (inv18.trans (by subst ex8; subst ez5_3; first | rfl | (simp only [fl, mHa, mHI, c2, d2, c4, d4, c5, c6, c7, d7, ne_eq, not_true_eq_false, not_false_eq_true, and_true, true_and, and_false, false_and, or_true, true_or, or_false, false_or, and_self, or_self, decide_eq_true_eq, ↓reduceIte]; done) | (simp only [fl, mHa, mHI, c2, d2, c4, d4, c5, c6, c7, d7, ne_eq, not_true_eq_false, not_false_eq_true, and_true, true_and, and_false, false_and, or_true, true_or, or_false, false_or, and_self, or_self, decide_eq_true_eq, ↓reduceIte]; rfl) | (simp [fl, mHa, mHI, c2, d2, c4, d4, c5, c6, c7, d7]; done) | (simp only [fl, mHa, mHI, c2, d2, c4, d4, c5, c6, c7, d7, ne_eq, not_true_eq_false, not_false_eq_true, and_true, true_and, and_false, false_and, or_true, true_or, or_false, false_or, and_self, or_self, decide_eq_true_eq, ↓reduceIte]))) ls (lv_sub hl [0, 1, 2, 3, 4, 5] rfl)
        exact loop18 (400 - g 0) 0 (by omega) _ (by rfl) ls (lv_sub hl [0, 2, 3, 4, 5, 1] rfl)
  exact loop5 (g 3) 0 (by omega) _ (by first | rfl | first | rfl | (simp only [fl, mHa, mHI, ne_eq, not_true_eq_false, not_false_eq_true, and_true, true_and, and_false, false_and, or_true, true_or, or_false, false_or, and_self, or_self, decide_eq_true_eq, ↓reduceIte]; done) | (simp only [fl, mHa, mHI, ne_eq, not_true_eq_false, not_false_eq_true, and_true, true_and, and_false, false_and, or_true, true_or, or_false, false_or, and_self, or_self, decide_eq_true_eq, ↓reduceIte]; rfl) | (simp [fl, mHa, mHI]; done) | (simp only [fl, mHa, mHI, ne_eq, not_true_eq_false, not_false_eq_true, and_true, true_and, and_false, false_and, or_true, true_or, or_false, false_or, and_self, or_self, decide_eq_true_eq, ↓reduceIte])) ls (lv_sub hl [0, 1, 2, 3, 4] rfl)

