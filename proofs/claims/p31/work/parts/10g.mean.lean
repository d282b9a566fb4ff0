/-! the mean of what is demanded, on both sides; the reference's word of what it refused -/
theorem vf_of {r : UInt64} (h : r.toNat % 2 ^ 63 ≤ 9218868437227405312) : vf_n64 r := by
  unfold vf_n64
  rw [UInt64.le_iff_toNat_le, UInt64.toNat_and]
  show r.toNat &&& (2 ^ 63 - 1) ≤ 9218868437227405312
  rw [Nat.and_two_pow_sub_one_eq_mod]
  exact h
theorem dv_q {a b : Int32} (hb : ¬ b = 0) : vf_n64 (FP.ddiv (FP.i2d a) (FP.i2d b)) :=
  vf_of ((Jvm.FP.Core.ne_nan _).mp ((Jvm.FP.Core.notNaN_iff _).mp (Jvm.FP.Core.ddiv_out (a := Jvm.FP.Core.i2d a) (b := Jvm.FP.Core.i2d b) ((Jvm.FP.Core.notNaN_iff _).mpr (Jvm.FP.Core.i2d_fin a).ne_nan) (Jvm.FP.Core.i2d_fin b) (fun h => Jvm.FP.Core.i2d_ne_zero hb ((Jvm.FP.Core.zero_bits2 _).mp h)))))
theorem dv_p {a b : Int32} (hb : ¬ b ≤ 0) : vf_n64 (FP.ddiv (FP.i2d a) (FP.i2d b)) := dv_q fun e => hb (by rw [e]; decide)
set_option maxHeartbeats 1000000 in
set_option maxRecDepth 100000 in
theorem c_X7_meanDemanded (l : Launch) (G : GT) (hlf : l.stackTraces = false) (A : Nat → Nat) (f : Nat → Nat → Int32) (g : Nat → Nat) (H : Heap) (hR : RP G A f g H) (d : Int32) : RxV l G H yX7_meanDemanded wsX7_meanDemanded { frames := 8, cells := 1, slots := 6, locals := 124 } [.ref (A 0), .int d] (koArg d 0 399) (some (.double (mnD f g d))) := by
  refine rx_of (cc := cX7_meanDemanded) (maxL := 4) (ret := (some .double)) (by decide) rfl (Nat.le_of_ble_eq_true rfl) ?_
  intro pZ eZ sZ mZ bZ meZ cZ ls S hr hlk hxt hl hHs hG
  have S : CallFix pZ mZ cZ cX7_meanDemanded 4 sZ _ wsX7_meanDemanded RX7 := S
  have hx := S.1
  have hb := S.2.1
  have hown := S.2.2.2.1
  have hts := S.2.2.2.2
  have hl : lv_has ls 4 [(0, .ref (A 0)), (1, .int d)] := hl
  have w0 := hts (.fieldLink RX7 26 "MinimaRoom" "procedures" "LMinimaRoom$Procedures;") (by decide +kernel)
  have iX7 : ∀ w ∈ u_ws RX7 TX7 8, w ∈ wsX7_meanDemanded := by decide +kernel
  have iX5 : ∀ w ∈ u_ws RX5 TX5 3, w ∈ wsX7_meanDemanded := by decide +kernel
  have hgb := hR.1
  have hg3 := hgb 3
  refine lv_iload_n hx hb dX7_meanDemanded_0 rfl (lv_at hl 1 rfl) ?_
  refine rx_S (As := [.int d]) (rest := []) (v := none) S hG (c_X7_requireDay l G hlf H d) gX7_meanDemanded_X7_requireDay rfl ⟨rfl, rfl⟩ nmX7_requireDay ⟨Nat.le_of_ble_eq_true rfl, Nat.le_of_ble_eq_true rfl⟩ rfl hl.1 rfl (Nat.le_of_ble_eq_true rfl) ⟨Nat.le_of_ble_eq_true rfl, Nat.le_of_ble_eq_true rfl⟩ dX7_meanDemanded_1 hxt hlk ⟨Nat.le_of_ble_eq_true rfl, Nat.le_of_ble_eq_true rfl⟩ (fun E t hE hext => ⟨by first | rfl | (simp only [hE, kOr, ne_eq, not_true_eq_false, not_false_eq_true, and_true, true_and, and_false, false_and, or_true, true_or, or_false, false_or, and_self, or_self, decide_eq_true_eq, ↓reduceIte]; done) | (simp only [hE, kOr, ne_eq, not_true_eq_false, not_false_eq_true, and_true, true_and, and_false, false_and, or_true, true_or, or_false, false_or, and_self, or_self, decide_eq_true_eq, ↓reduceIte]; done) | (simp [hE, kOr]; done) | (simp only [hE, kOr, ne_eq, not_true_eq_false, not_false_eq_true, and_true, true_and, and_false, false_and, or_true, true_or, or_false, false_or, and_self, or_self, decide_eq_true_eq, ↓reduceIte]), hext⟩) (fun k1 => ?_)
  refine W.eq (g2 := F0 mZ 4 ls []) rfl ?_
  refine lv_aload_n hx hb dX7_meanDemanded_4 rfl (lv_at hl 0 rfl) ?_
  refine rd_get (own := RX7) (x := .ref (A 3)) S hG.1 iX7 (rP_0 hR) 2 rfl (by decide) w0 rfl dX7_meanDemanded_5 ?_
  refine rd_getN (own := RX7) (x := .int (nI (g 3))) S hG.1 iX5 (rP_3 hR) 2 rfl (by decide) nest_124 rfl dX7_meanDemanded_8 ?_
  refine lv_if_gt (tgt := 16) hx hb dX7_meanDemanded_11 (by decide) (fun c2 => ?_) (fun c2 => ?_)
  · have d2 := Int32.not_le.mpr c2
    refine lv_iconst (v := 0) hx hb dX7_meanDemanded_16 (by decide) ?_
    refine lv_istore_n (lv' := [(2, .int 0), (0, .ref (A 0)), (1, .int d)]) hx hb dX7_meanDemanded_17 rfl hl (by decide) rfl (fun ls hl => ?_)
    refine lv_iconst (v := 0) hx hb dX7_meanDemanded_18 (by decide) ?_
    refine lv_istore_n (lv' := [(3, .int 0), (2, .int 0), (0, .ref (A 0)), (1, .int d)]) hx hb dX7_meanDemanded_19 rfl hl (by decide) rfl (fun ls hl => ?_)
    have loop20 : ∀ (n20 k20 : Nat), k20 + n20 = g 3 → ∀ (z20_2 : Int32), z20_2 = fl k20 (fun j s => s + lH f g (nI j) d (-1)) 0 → ∀ (ls : Array Slot), lv_has ls 4 [(3, .int (nI k20)), (2, .int z20_2), (0, .ref (A 0)), (1, .int d)] → W pZ l eZ ({ frames := 8, cells := 1, slots := 6, locals := 124 } : Room) sZ mZ ([.ref (A 0), .int d] : List Value).toArray bZ meZ cZ H [] 0 0 (rx_Q bZ H [.ref (A 0), .int d] sZ (koArg d 0 399) (some (.double (mnD f g d)))) (F0 mZ 20 ls []) := by
      intro n20
      induction n20 with
      | zero =>
        intro k20 hk20 z20_2 ez20_2 ls hl
        obtain rfl : k20 = g 3 := by omega
        refine lv_iload_n hx hb dX7_meanDemanded_20 rfl (lv_at hl 0 rfl) ?_
        refine lv_aload_n hx hb dX7_meanDemanded_21 rfl (lv_at hl 2 rfl) ?_
        refine rd_get (own := RX7) (x := .ref (A 3)) S hG.1 iX7 (rP_0 hR) 2 rfl (by decide) w0 rfl dX7_meanDemanded_22 ?_
        refine rd_getN (own := RX7) (x := .int (nI (g 3))) S hG.1 iX5 (rP_3 hR) 2 rfl (by decide) nest_124 rfl dX7_meanDemanded_25 ?_
        refine lv_icmp_ge (tgt := 47) hx hb dX7_meanDemanded_28 (by decide) (fun c3 => ?_) (fun c3 => ?_)
        · have d3 := Int32.not_lt.mpr c3
          refine lv_iload_n hx hb dX7_meanDemanded_47 rfl (lv_at hl 1 rfl) ?_
          refine lv_i2d hx hb dX7_meanDemanded_48 ?_
          refine lv_aload_n hx hb dX7_meanDemanded_49 rfl (lv_at hl 2 rfl) ?_
          refine rd_get (own := RX7) (x := .ref (A 3)) S hG.1 iX7 (rP_0 hR) 2 rfl (by decide) w0 rfl dX7_meanDemanded_50 ?_
          refine rd_getN (own := RX7) (x := .int (nI (g 3))) S hG.1 iX5 (rP_3 hR) 2 rfl (by decide) nest_124 rfl dX7_meanDemanded_53 ?_
          refine lv_i2d hx hb dX7_meanDemanded_56 ?_
          refine lv_ddiv hx hb dX7_meanDemanded_57 (dv_p (by assumption)) ?_
          exact rx_dret S hr hlk dX7_meanDemanded_58 (by subst ez20_2; first | rfl | (simp only [k1, kOr, ne_eq, not_true_eq_false, not_false_eq_true, and_true, true_and, and_false, false_and, or_true, true_or, or_false, false_or, and_self, or_self, decide_eq_true_eq, ↓reduceIte]; done) | (simp only [k1, c2, d2, c3, d3, kOr, ne_eq, not_true_eq_false, not_false_eq_true, and_true, true_and, and_false, false_and, or_true, true_or, or_false, false_or, and_self, or_self, decide_eq_true_eq, ↓reduceIte]; done) | (simp [k1, c2, d2, c3, d3, kOr]; done) | (simp only [k1, c2, d2, c3, d3, kOr, ne_eq, not_true_eq_false, not_false_eq_true, and_true, true_and, and_false, false_and, or_true, true_or, or_false, false_or, and_self, or_self, decide_eq_true_eq, ↓reduceIte])) (congrArg (fun z => some (Value.double z)) (by subst ez20_2; unfold mnD; rw [if_pos c2]; rfl))
        · exact absurd (nI_le (by omega) (by omega)) c3
      | succ n20 ih20 =>
        intro k20 hk20 z20_2 ez20_2 ls hl
        refine lv_iload_n hx hb dX7_meanDemanded_20 rfl (lv_at hl 0 rfl) ?_
        refine lv_aload_n hx hb dX7_meanDemanded_21 rfl (lv_at hl 2 rfl) ?_
        refine rd_get (own := RX7) (x := .ref (A 3)) S hG.1 iX7 (rP_0 hR) 2 rfl (by decide) w0 rfl dX7_meanDemanded_22 ?_
        refine rd_getN (own := RX7) (x := .int (nI (g 3))) S hG.1 iX5 (rP_3 hR) 2 rfl (by decide) nest_124 rfl dX7_meanDemanded_25 ?_
        refine lv_icmp_ge (tgt := 47) hx hb dX7_meanDemanded_28 (by decide) (fun c4 => ?_) (fun c4 => ?_)
        · exact absurd c4 (nI_ge (by omega) (by omega))
        · have d4 := Int32.not_le.mp c4
          refine lv_iload_n hx hb dX7_meanDemanded_31 rfl (lv_at hl 1 rfl) ?_
          refine lv_aload_n hx hb dX7_meanDemanded_32 rfl (lv_at hl 2 rfl) ?_
          refine lv_iload_n hx hb dX7_meanDemanded_33 rfl (lv_at hl 0 rfl) ?_
          refine lv_iload_n hx hb dX7_meanDemanded_34 rfl (lv_at hl 3 rfl) ?_
          refine lv_iconst (v := (-1)) hx hb dX7_meanDemanded_35 (by decide) ?_
          refine rd_V (As := [.int (nI k20), .int d, .int (-1)]) (rest := [.int z20_2]) (v := some (.int (lH f g (nI k20) d (-1)))) S hG (c_X7_leastHeight l G A f g H hR (nI k20) d (-1)) gX7_meanDemanded_X7_leastHeight rfl ⟨rfl, rfl⟩ nmX7_leastHeight ⟨Nat.le_of_ble_eq_true rfl, Nat.le_of_ble_eq_true rfl⟩ (rd_rcv hG.1 (rP_0 hR) rfl) rfl hl.1 rfl (Nat.le_of_ble_eq_true rfl) ⟨Nat.zero_le _, Nat.zero_le _⟩ dX7_meanDemanded_36 ?_
          refine W.eq (g2 := F0 mZ 39 ls [.int (lH f g (nI k20) d (-1)), .int z20_2]) rfl ?_
          refine lv_iadd hx hb dX7_meanDemanded_39 ?_
          refine lv_topi (fun x5 ex5 => ?_)
          refine lv_istore_n (lv' := [(2, .int x5), (3, .int (nI k20)), (0, .ref (A 0)), (1, .int d)]) hx hb dX7_meanDemanded_40 rfl hl (by decide) rfl (fun ls hl => ?_)
          refine lv_iinc (v := nI (k20 + 1)) (lv' := [(3, .int (nI (k20 + 1))), (2, .int x5), (0, .ref (A 0)), (1, .int d)]) hx hb dX7_meanDemanded_41 hl (k := 1) rfl (nI_inc _) (by decide) rfl (fun ls hl => ?_)
          refine lv_goto (tgt := 20) hx hb dX7_meanDemanded_44 (by decide) ?_
          exact ih20 (k20 + 1) (by omega) _ (by subst ex5; subst ez20_2; rfl) ls (lv_sub hl [0, 1, 2, 3] rfl)
    exact loop20 (g 3) 0 (by omega) _ (by first | rfl | first | rfl | (simp only [fl, k1, c2, d2, ne_eq, not_true_eq_false, not_false_eq_true, and_true, true_and, and_false, false_and, or_true, true_or, or_false, false_or, and_self, or_self, decide_eq_true_eq, ↓reduceIte]; done) | (simp only [fl, k1, c2, d2, ne_eq, not_true_eq_false, not_false_eq_true, and_true, true_and, and_false, false_and, or_true, true_or, or_false, false_or, and_self, or_self, decide_eq_true_eq, ↓reduceIte]; rfl) | (simp [fl, k1, c2, d2]; done) | (simp only [fl, k1, c2, d2, ne_eq, not_true_eq_false, not_false_eq_true, and_true, true_and, and_false, false_and, or_true, true_or, or_false, false_or, and_self, or_self, decide_eq_true_eq, ↓reduceIte])) ls (lv_sub hl [0, 1, 2, 3] rfl)
  · have d2 := Int32.not_lt.mp c2
    refine lv_dconst0 hx hb dX7_meanDemanded_14 ?_
    exact rx_dret S hr hlk dX7_meanDemanded_15 (by first | rfl | (simp only [k1, kOr, ne_eq, not_true_eq_false, not_false_eq_true, and_true, true_and, and_false, false_and, or_true, true_or, or_false, false_or, and_self, or_self, decide_eq_true_eq, ↓reduceIte]; done) | (simp only [k1, c2, d2, kOr, ne_eq, not_true_eq_false, not_false_eq_true, and_true, true_and, and_false, false_and, or_true, true_or, or_false, false_or, and_self, or_self, decide_eq_true_eq, ↓reduceIte]; done) | (simp [k1, c2, d2, kOr]; done) | (simp only [k1, c2, d2, kOr, ne_eq, not_true_eq_false, not_false_eq_true, and_true, true_and, and_false, false_and, or_true, true_or, or_false, false_or, and_self, or_self, decide_eq_true_eq, ↓reduceIte])) (congrArg (fun z => some (Value.double z)) (by unfold mnD; rw [if_neg c2]; rfl))
