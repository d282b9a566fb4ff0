/-! days that pass, in the reference -/
section GST
variable {G : GT} {B : Nat → Nat} {th : Int32} {mc : Nat → Int32} {cp g : Nat → Nat} {f : Nat → Nat → Int32} {j n : Nat}
theorem mC_g0 (h : j ≠ 0) : mC G B th mc cp f (gset g 0 n) j = mC G B th mc cp f g j := by
  unfold mC
  rw [if_neg h, if_neg h]
  rfl
theorem mC_g7 (h : j ≠ 0) : mC G B th mc cp f (gset g 7 n) j = mC G B th mc cp f g j := by
  unfold mC
  rw [if_neg h, if_neg h]
  rfl
theorem mI_0 (h : MI cp f g) (hn : n ≤ 399) : MI cp f (gset g 0 n) := by
  obtain ⟨⟨h1, h2, h3⟩, h4, h5⟩ := h
  exact ⟨⟨gset_lt h1 (by omega), hn, h3⟩, h4, h5⟩
theorem mI_7 (h : MI cp f g) (hn : n < 65536) : MI cp f (gset g 7 n) := by
  obtain ⟨⟨h1, h2, h3⟩, h4, h5⟩ := h
  exact ⟨⟨gset_lt h1 hn, h2, h3⟩, h4, h5⟩
end GST
/-- how many procedures are not safe on the day that g tells -/
def mPi (f : Nat → Nat → Int32) (g : Nat → Nat) (n : Nat) : Nat := fl n (fun p s => if mUn f g p (nI (g 0)) = true then s + 1 else s) 0
def mPs (f : Nat → Nat → Int32) (g : Nat → Nat) (n : Nat) : Nat := fl n (fun k s => s + mPi f (gset g 0 (g 0 + (k + 1))) (g 3)) 0
theorem mPi_t {f : Nat → Nat → Int32} {g : Nat → Nat} {a n : Nat} (h : mUn f g n (nI (g 0)) = true) : nI (a + mPi f g n) + 1 = nI (a + mPi f g (n + 1)) := by
  have e : mPi f g (n + 1) = mPi f g n + 1 := if_pos h
  rw [e, nI_1]
  rfl
theorem mPi_f {f : Nat → Nat → Int32} {g : Nat → Nat} {a n : Nat} (h : ¬ mUn f g n (nI (g 0)) = true) : nI (a + mPi f g n) + 0 = nI (a + mPi f g (n + 1)) := by
  have e : mPi f g (n + 1) = mPi f g n := if_neg h
  rw [e, Int32.add_zero]
theorem mPi_le (f : Nat → Nat → Int32) (g : Nat → Nat) : ∀ n, mPi f g n ≤ n
  | 0 => Nat.le_refl _
  | n + 1 => by
    have h := mPi_le f g n
    show (if mUn f g n (nI (g 0)) = true then mPi f g n + 1 else mPi f g n) ≤ n + 1
    split <;> omega
theorem mPs_le (f : Nat → Nat → Int32) (g : Nat → Nat) (h3 : g 3 ≤ 4) : ∀ n, mPs f g n ≤ 4 * n
  | 0 => Nat.le_refl _
  | n + 1 => by
    have h := mPs_le f g h3 n
    have h2 := mPi_le f (gset g 0 (g 0 + (n + 1))) (g 3)
    show mPs f g n + mPi f (gset g 0 (g 0 + (n + 1))) (g 3) ≤ _
    omega
theorem inB_c1 {d : Int32} (h : inB d 1 60 = true) : d = nI (cnt d) ∧ 1 ≤ cnt d ∧ cnt d ≤ 60 := by
  have h2 : ¬ d < 1 ∧ ¬ 60 < d := of_decide_eq_true h
  exact koArg_c1 (by unfold koArg; rw [if_neg h2.1, if_neg h2.2])
theorem nmX11_pass : nmV yX11_pass RX11 1 := by decide +kernel

set_option maxHeartbeats 1000000 in
set_option maxRecDepth 100000 in
theorem c_X11_pass (l : Launch) (G : GT) (B : Nat → Nat) (th : Int32) (mc : Nat → Int32) (cp : Nat → Nat) (f : Nat → Nat → Int32) (g : Nat → Nat) (H : Heap) (hM : MP G B th mc cp f g H) (D : Nat → Prop) (hD : DP G D H.size) (hB : DB D B cp g) (hg7 : g 7 ≤ 63 * g 0) (d : Int32) : MwV l G D H yX11_pass wsX11_pass { frames := 7, cells := 0, slots := 0, locals := 165 } [.ref (B 0), .int d] 0 0 (fun v u => ∃ mt : Int32, mt = tw2 (¬ inB d 1 60 = true) (399 < nI (g 0) + d) ∧ v = some (.int (if mt = 0 then nI (mPs f g (cnt d)) else 0)) ∧ MP G B mt mc cp f (if mt = 0 then gset (gset g 0 (g 0 + cnt d)) 7 (g 7 + mPs f g (cnt d)) else g) u) := by
  refine mw_of (cc := cX11_pass) (maxL := 5) (ret := (some .int)) (by decide) rfl (Nat.le_of_ble_eq_true rfl) ?_
  intro pZ eZ sZ mZ bZ meZ cZ ls S hr hlk hl hHs hG hGX
  have S : CallFix pZ mZ cZ cX11_pass 5 sZ _ wsX11_pass RX11 := S
  have hx := S.1
  have hb := S.2.1
  have hown := S.2.2.2.1
  have hts := S.2.2.2.2
  have hl : lv_has ls 5 [(0, .ref (B 0)), (1, .int d)] := hl
  have w0 := hts (.fieldLink RX11 156 "MinimaRoomModel" "now" "I") (by decide +kernel)
  have w1 := hts (.fieldLink RX11 172 "MinimaRoomModel" "\x75nsafe" "I") (by decide +kernel)
  have w2 := hts (.fieldLink RX11 23 "MinimaRoomModel" "procedures" "Ljava/util/ArrayList;") (by decide +kernel)
  have iX11 : ∀ w ∈ u_ws RX11 TX11 11, w ∈ wsX11_pass := by decide +kernel
  have hS : va_S D H H [] := va_S.rf
  have hI := hM.1
  have hgb := hI.1.1
  have hg0 := hI.1.2.1
  have hg1 := hI.1.2.2.1
  have hg3 := hI.1.2.2.2.1
  have hg4 := hI.1.2.2.2.2.1
  have hg5 := hI.1.2.2.2.2.2
  refine lv_aload_n hx hb dX11_pass_0 rfl (lv_at hl 0 rfl) ?_
  refine lv_iload_n hx hb dX11_pass_1 rfl (lv_at hl 1 rfl) ?_
  refine lv_iconst (v := 1) hx hb dX11_pass_2 (by decide) ?_
  refine lv_bipush (v := 60) hx hb dX11_pass_3 (by decide) ?_
  refine rd_S (As := [.int d, .int 1, .int 60]) (rest := [.ref (B 0)]) (v := some (.int (b2i (inB d 1 60 = true)))) S hG (c_X11_isIn l G H d 1 60) gX11_pass_X11_isIn rfl ⟨rfl, rfl⟩ nmX11_isIn ⟨Nat.le_of_ble_eq_true rfl, Nat.le_of_ble_eq_true rfl⟩ rfl hl.1 rfl (Nat.le_of_ble_eq_true rfl) ⟨by show 0 ≤ 0; omega, by show 0 ≤ 0; omega⟩ dX11_pass_5 ?_
  refine W.eq (g2 := F0 mZ 8 ls [.int (b2i (inB d 1 60 = true)), .ref (B 0)]) rfl ?_
  refine lv_if_ne (tgt := 15) hx hb dX11_pass_8 (by decide) (fun c1 => ?_) (fun c1 => ?_)
  · have c1 := b2i_nz.mp c1
    refine lv_iconst (v := 0) hx hb dX11_pass_15 (by decide) ?_
    refine lv_iconst (v := 1) hx hb dX11_pass_16 (by decide) ?_
    refine mw_V (As := [.int 0, .int 1]) (rest := []) S hD hGX hG hS (c_X11_start l G B th mc cp f g H hM D (dp_le hD hS.1) hB (False) inferInstance 1 (by decide)) (fun _ h => h) gX11_pass_X11_start rfl ⟨rfl, rfl⟩ nmX11_start ⟨Nat.le_of_ble_eq_true rfl, Nat.le_of_ble_eq_true rfl⟩ (rd_rcv hG.1 (mP_0 hM) rfl) rfl hl.1 rfl (Nat.le_of_ble_eq_true rfl) ⟨by show 0 + 0 ≤ 0; omega, by show 0 + 0 ≤ 0; omega⟩ dX11_pass_17 (fun H2 locs2 v2 hS2 hs2 hP2 hG2 => ?_)
    obtain ⟨hv2, hM2⟩ := hP2.2 not_false
    subst hv2
    refine W.eq (g2 := F0 mZ 20 ls [.int 0]) rfl ?_
    refine lv_if_ne (tgt := 48) hx hb dX11_pass_20 (by decide) (fun c => absurd (by decide) c) (fun _ => ?_)
    refine lv_aload_n hx hb dX11_pass_23 rfl (lv_at hl 0 rfl) ?_
    refine lv_aload_n hx hb dX11_pass_24 rfl (lv_at hl 0 rfl) ?_
    refine rd_get (own := RX11) (x := .int (nI (g 0))) S hG2.1 iX11 (mP_0 hM2) 1 rfl (by decide) w0 rfl dX11_pass_25 ?_
    refine lv_iload_n hx hb dX11_pass_28 rfl (lv_at hl 1 rfl) ?_
    refine lv_iadd hx hb dX11_pass_29 ?_
    refine lv_sipush (v := 399) hx hb dX11_pass_30 (by decide) ?_
    refine lv_icmp_le (tgt := 40) hx hb dX11_pass_33 (by decide) (fun c3 => ?_) (fun c3 => ?_)
    · have d3 := Int32.not_lt.mpr c3
      refine lv_iconst (v := 0) hx hb dX11_pass_40 (by decide) ?_
      refine lv_iconst (v := 2) hx hb dX11_pass_41 (by decide) ?_
      refine mw_V (As := [.int 0, .int 2]) (rest := []) S hD hGX hG2 hS2 (c_X11_refuse l G B 0 mc cp f g H2 hM2 rfl D (dp_le hD hS2.1) hB (False) inferInstance 2 (by decide)) (fun _ h => h) gX11_pass_X11_refuse rfl ⟨rfl, rfl⟩ nmX11_refuse ⟨Nat.le_of_ble_eq_true rfl, Nat.le_of_ble_eq_true rfl⟩ (rd_rcv hG2.1 (mP_0 hM2) rfl) rfl hl.1 rfl (Nat.le_of_ble_eq_true rfl) ⟨by show 0 + 0 ≤ 0; omega, by show 0 + 0 ≤ 0; omega⟩ dX11_pass_42 (fun H4 locs4 v4 hS4 hs4 hP4 hG4 => ?_)
      obtain ⟨hv4, hM4⟩ := hP4.2 not_false
      subst hv4
      refine W.eq (g2 := F0 mZ 45 ls [.int 0]) rfl ?_
      refine lv_if_eq (tgt := 50) hx hb dX11_pass_45 (by decide) (fun _ => ?_) (fun c => absurd (by decide) c)
      have hd := inB_c1 c1
      have hsum := pas_le hd.1 hg0 (by omega) c3
      have hps := mPs_le f g hg3 (cnt d)
      have hMs : MP G B 0 mc cp f (gset g 0 (g 0 + 0)) H4 := by rw [Nat.add_zero, gset_0]; exact hM4
      have hpA : inB d 1 60 = true := c1
      have hpB : ¬ 399 < nI (g 0) + d := Int32.not_lt.mpr c3
      refine lv_iconst (v := 0) hx hb dX11_pass_50 (by decide) ?_
      refine lv_istore_n (lv' := [(2, .int 0), (0, .ref (B 0)), (1, .int d)]) hx hb dX11_pass_51 rfl hl (by decide) rfl (fun ls hl => ?_)
      refine lv_iconst (v := 0) hx hb dX11_pass_52 (by decide) ?_
      refine lv_istore_n (lv' := [(3, .int 0), (2, .int 0), (0, .ref (B 0)), (1, .int d)]) hx hb dX11_pass_53 rfl hl (by decide) rfl (fun ls hl => ?_)
      have loop54 : ∀ (n54 k54 : Nat), k54 + n54 = cnt d → ∀ (z54_2 : Int32), z54_2 = nI (mPs f g k54) → ∀ (H5 : Heap) (locs5 : List Loc), va_S D H H5 locs5 → MP G B 0 mc cp f (gset g 0 (g 0 + k54)) H5 → GK G H5 sZ → ∀ (ls : Array Slot), lv_has ls 5 [(3, .int (nI k54)), (2, .int z54_2), (0, .ref (B 0)), (1, .int d)] → W pZ l eZ ({ frames := 7, cells := 0, slots := 0, locals := 165 } : Room) sZ mZ ([.ref (B 0), .int d] : List Value).toArray bZ meZ cZ H5 locs5 0 0 (mw_Q bZ D H [.ref (B 0), .int d] sZ 0 0 (fun v u => ∃ mt : Int32, mt = tw2 (¬ inB d 1 60 = true) (399 < nI (g 0) + d) ∧ v = some (.int (if mt = 0 then nI (mPs f g (cnt d)) else 0)) ∧ MP G B mt mc cp f (if mt = 0 then gset (gset g 0 (g 0 + cnt d)) 7 (g 7 + mPs f g (cnt d)) else g) u)) (F0 mZ 54 ls []) := by
        intro n54
        induction n54 with
        | zero =>
          intro k54 hk54 z54_2 ez54_2 H5 locs5 hS5 hM5 hG5 ls hl
          obtain rfl : k54 = cnt d := by omega
          refine lv_iload_n hx hb dX11_pass_54 rfl (lv_at hl 0 rfl) ?_
          refine lv_iload_n hx hb dX11_pass_55 rfl (lv_at hl 3 rfl) ?_
          refine lv_icmp_ge (tgt := 117) hx hb dX11_pass_56 (by decide) (fun c6 => ?_) (fun c6 => ?_)
          · have d6 := Int32.not_lt.mpr c6
            refine lv_aload_n hx hb dX11_pass_117 rfl (lv_at hl 2 rfl) ?_
            refine lv_dup hx hb dX11_pass_118 rfl ?_
            refine rd_get (own := RX11) (x := .int (nI ((gset g 0 (g 0 + (cnt d))) 7))) S hG5.1 iX11 (mP_0 hM5) 2 rfl (by decide) w1 rfl dX11_pass_119 ?_
            refine lv_iload_n hx hb dX11_pass_122 rfl (lv_at hl 1 rfl) ?_
            refine lv_iadd hx hb dX11_pass_123 ?_
            refine W.eq (g2 := F0 mZ 124 ls [.int (nI (g 7 + mPs f g (cnt d))), .ref (B 0)]) (by subst ez54_2; exact congrArg (fun z => F0 mZ 124 ls [Value.int z, Value.ref (B 0)]) (nI_add _ _)) ?_
            refine mw_putf (ty := .int) S hD hG5 hS5 (hB.1 _ (Or.inl (by decide) : mD cp (gset g 0 (g 0 + (cnt d))) 0)) iX11 tyX11 tyX11_ok nmX11 (mP_0 hM5) 2 rfl (by decide) w1 rfl (by decide +kernel) rfl rfl (Nat.le_of_ble_eq_true rfl) dX11_pass_124 (fun H7 locs7 hn7 hz7 hq7 hS7 hG7 => ?_)
            have hM7 : MP G B 0 mc cp f (gset (gset g 0 (g 0 + (cnt d))) 7 (g 7 + mPs f g (cnt d))) H7 := mp_one hM5 hB (Or.inl (by decide) : mD cp (gset g 0 (g 0 + (cnt d))) 0) hn7 hq7 (fun j _ hj => mC_g7 hj) (mI_7 hM5.1 (by omega)) (fun _ h => h)
            refine lv_iload_n hx hb dX11_pass_127 rfl (lv_at hl 1 rfl) ?_
            exact mw_iret S hr hlk hS7 ⟨by show 0 ≤ 0; omega, by show 0 ≤ 0; omega⟩ dX11_pass_128 ⟨0, (by simp [tw2, hpA, hpB]), congrArg (fun z => some (Value.int z)) (by rw [if_pos rfl]; exact ez54_2), (by rw [if_pos rfl]; exact hM7)⟩
          · exact absurd (lp_le_cnt _) c6
        | succ n54 ih54 =>
          intro k54 hk54 z54_2 ez54_2 H5 locs5 hS5 hM5 hG5 ls hl
          refine lv_iload_n hx hb dX11_pass_54 rfl (lv_at hl 0 rfl) ?_
          refine lv_iload_n hx hb dX11_pass_55 rfl (lv_at hl 3 rfl) ?_
          refine lv_icmp_ge (tgt := 117) hx hb dX11_pass_56 (by decide) (fun c8 => ?_) (fun c8 => ?_)
          · exact absurd c8 (lp_nle (by omega))
          · have d8 := Int32.not_le.mp c8
            refine lv_aload_n hx hb dX11_pass_59 rfl (lv_at hl 2 rfl) ?_
            refine lv_dup hx hb dX11_pass_60 rfl ?_
            refine rd_get (own := RX11) (x := .int (nI ((gset g 0 (g 0 + k54)) 0))) S hG5.1 iX11 (mP_0 hM5) 1 rfl (by decide) w0 rfl dX11_pass_61 ?_
            refine lv_iconst (v := 1) hx hb dX11_pass_64 (by decide) ?_
            refine lv_iadd hx hb dX11_pass_65 ?_
            refine W.eq (g2 := F0 mZ 66 ls [.int (nI (((gset g 0 (g 0 + k54)) 0) + 1)), .ref (B 0)]) (by rw [nI_1]) ?_
            refine mw_putf (ty := .int) S hD hG5 hS5 (hB.1 _ (Or.inl (by decide) : mD cp (gset g 0 (g 0 + k54)) 0)) iX11 tyX11 tyX11_ok nmX11 (mP_0 hM5) 1 rfl (by decide) w0 rfl (by decide +kernel) rfl rfl (Nat.le_of_ble_eq_true rfl) dX11_pass_66 (fun H9 locs9 hn9 hz9 hq9 hS9 hG9 => ?_)
            have hM9 : MP G B 0 mc cp f (gset (gset g 0 (g 0 + k54)) 0 (((gset g 0 (g 0 + k54)) 0) + 1)) H9 := mp_one hM5 hB (Or.inl (by decide) : mD cp (gset g 0 (g 0 + k54)) 0) hn9 hq9 (fun j _ hj => mC_g0 hj) (mI_0 hM5.1 (by show g 0 + k54 + 1 ≤ 399; omega)) (fun _ h => h)
            rw [show gset (gset g 0 (g 0 + k54)) 0 ((gset g 0 (g 0 + k54)) 0 + 1) = gset g 0 (g 0 + (k54 + 1)) from gset_s g _ _] at hM9
            refine lv_iconst (v := 0) hx hb dX11_pass_69 (by decide) ?_
            refine lv_istore (lv' := [(4, .int 0), (3, .int (nI k54)), (2, .int z54_2), (0, .ref (B 0)), (1, .int d)]) hx hb dX11_pass_70 hl (by decide) rfl (fun ls hl => ?_)
            have loop72 : ∀ (n72 k72 : Nat), k72 + n72 = (gset g 0 (g 0 + (k54 + 1))) 3 → ∀ (z72_2 : Int32), z72_2 = nI (mPs f g k54 + mPi f (gset g 0 (g 0 + (k54 + 1))) k72) → ∀ (ls : Array Slot), lv_has ls 5 [(4, .int (nI k72)), (2, .int z72_2), (0, .ref (B 0)), (1, .int d), (3, .int (nI k54))] → W pZ l eZ ({ frames := 7, cells := 0, slots := 0, locals := 165 } : Room) sZ mZ ([.ref (B 0), .int d] : List Value).toArray bZ meZ cZ H9 locs9 0 0 (mw_Q bZ D H [.ref (B 0), .int d] sZ 0 0 (fun v u => ∃ mt : Int32, mt = tw2 (¬ inB d 1 60 = true) (399 < nI (g 0) + d) ∧ v = some (.int (if mt = 0 then nI (mPs f g (cnt d)) else 0)) ∧ MP G B mt mc cp f (if mt = 0 then gset (gset g 0 (g 0 + cnt d)) 7 (g 7 + mPs f g (cnt d)) else g) u)) (F0 mZ 72 ls []) := by
              intro n72
              induction n72 with
              | zero =>
                intro k72 hk72 z72_2 ez72_2 ls hl
                obtain rfl : k72 = (gset g 0 (g 0 + (k54 + 1))) 3 := by omega
                refine lv_iload hx hb dX11_pass_72 (lv_at hl 0 rfl) ?_
                refine lv_aload_n hx hb dX11_pass_74 rfl (lv_at hl 2 rfl) ?_
                refine rd_get (own := RX11) (x := .ref (B 6)) S hG9.1 iX11 (mP_0 hM9) 7 rfl (by decide) w2 rfl dX11_pass_75 ?_
                refine rd_V (As := []) (rest := [.int (nI ((gset g 0 (g 0 + (k54 + 1))) 3))]) (v := some (.int (nI ((gset g 0 (g 0 + (k54 + 1))) 3)))) S hG9 (c_Jx4a65c_size_8abf5 l G H9 (B 6) (eA G B cp 6 9) (mc 6) (nI ((gset g 0 (g 0 + (k54 + 1))) 3)) (mP_6 hM9)) gX11_pass_Jx4a65c_size_8abf5 rfl ⟨rfl, rfl⟩ nmJx4a65c_size_8abf5 ⟨Nat.le_of_ble_eq_true rfl, Nat.le_of_ble_eq_true rfl⟩ (rd_rcv hG9.1 (mP_6 hM9) rfl) rfl hl.1 rfl (Nat.le_of_ble_eq_true rfl) ⟨by show 0 ≤ 0; omega, by show 0 ≤ 0; omega⟩ dX11_pass_78 ?_
                refine W.eq (g2 := F0 mZ 81 ls [.int (nI ((gset g 0 (g 0 + (k54 + 1))) 3)), .int (nI ((gset g 0 (g 0 + (k54 + 1))) 3))]) rfl ?_
                refine lv_icmp_ge (tgt := 111) hx hb dX11_pass_81 (by decide) (fun c10 => ?_) (fun c10 => ?_)
                · have d10 := Int32.not_lt.mpr c10
                  refine lv_iinc (v := nI (k54 + 1)) (lv' := [(3, .int (nI (k54 + 1))), (4, .int (nI ((gset g 0 (g 0 + (k54 + 1))) 3))), (2, .int z72_2), (0, .ref (B 0)), (1, .int d)]) hx hb dX11_pass_111 hl (k := 4) rfl (nI_inc _) (by decide) rfl (fun ls hl => ?_)
                  refine lv_goto (tgt := 54) hx hb dX11_pass_114 (by decide) ?_
                  exact ih54 (k54 + 1) (by omega) _ (by subst ez72_2; subst ez54_2; rfl) _ _ hS9 hM9 hG9 ls (lv_sub hl [0, 2, 3, 4] rfl)
                · exact absurd (show nI (g 3) ≤ nI (g 3) from Int32.le_refl _) c10
              | succ n72 ih72 =>
                intro k72 hk72 z72_2 ez72_2 ls hl
                refine lv_iload hx hb dX11_pass_72 (lv_at hl 0 rfl) ?_
                refine lv_aload_n hx hb dX11_pass_74 rfl (lv_at hl 2 rfl) ?_
                refine rd_get (own := RX11) (x := .ref (B 6)) S hG9.1 iX11 (mP_0 hM9) 7 rfl (by decide) w2 rfl dX11_pass_75 ?_
                refine rd_V (As := []) (rest := [.int (nI k72)]) (v := some (.int (nI ((gset g 0 (g 0 + (k54 + 1))) 3)))) S hG9 (c_Jx4a65c_size_8abf5 l G H9 (B 6) (eA G B cp 6 9) (mc 6) (nI ((gset g 0 (g 0 + (k54 + 1))) 3)) (mP_6 hM9)) gX11_pass_Jx4a65c_size_8abf5 rfl ⟨rfl, rfl⟩ nmJx4a65c_size_8abf5 ⟨Nat.le_of_ble_eq_true rfl, Nat.le_of_ble_eq_true rfl⟩ (rd_rcv hG9.1 (mP_6 hM9) rfl) rfl hl.1 rfl (Nat.le_of_ble_eq_true rfl) ⟨by show 0 ≤ 0; omega, by show 0 ≤ 0; omega⟩ dX11_pass_78 ?_
                refine W.eq (g2 := F0 mZ 81 ls [.int (nI ((gset g 0 (g 0 + (k54 + 1))) 3)), .int (nI k72)]) rfl ?_
                refine lv_icmp_ge (tgt := 111) hx hb dX11_pass_81 (by decide) (fun c11 => ?_) (fun c11 => ?_)
                · have hk9 : k72 + (n72 + 1) = g 3 := hk72; exact absurd c11 (nI_ge (show k72 < g 3 by omega) (show g 3 < 2 ^ 31 by omega))
                · have d11 := Int32.not_le.mp c11
                  refine lv_iload_n hx hb dX11_pass_84 rfl (lv_at hl 1 rfl) ?_
                  refine lv_aload_n hx hb dX11_pass_85 rfl (lv_at hl 2 rfl) ?_
                  refine lv_iload hx hb dX11_pass_86 (lv_at hl 0 rfl) ?_
                  refine lv_aload_n hx hb dX11_pass_88 rfl (lv_at hl 2 rfl) ?_
                  refine rd_get (own := RX11) (x := .int (nI ((gset g 0 (g 0 + (k54 + 1))) 0))) S hG9.1 iX11 (mP_0 hM9) 1 rfl (by decide) w0 rfl dX11_pass_89 ?_
                  refine rd_V (As := [.int (nI k72), .int (nI ((gset g 0 (g 0 + (k54 + 1))) 0))]) (rest := [.int z72_2]) (v := some (.int (b2i (mUn f (gset g 0 (g 0 + (k54 + 1))) k72 (nI ((gset g 0 (g 0 + (k54 + 1))) 0)) = true)))) S hG9 (c_X11_isUnsafe l G B 0 mc cp f (gset g 0 (g 0 + (k54 + 1))) H9 hM9 k72 (nI ((gset g 0 (g 0 + (k54 + 1))) 0)) (by omega)) gX11_pass_X11_isUnsafe rfl ⟨rfl, rfl⟩ nmX11_isUnsafe ⟨Nat.le_of_ble_eq_true rfl, Nat.le_of_ble_eq_true rfl⟩ (rd_rcv hG9.1 (mP_0 hM9) rfl) rfl hl.1 rfl (Nat.le_of_ble_eq_true rfl) ⟨by show 0 ≤ 0; omega, by show 0 ≤ 0; omega⟩ dX11_pass_92 ?_
                  refine W.eq (g2 := F0 mZ 95 ls [.int (b2i (mUn f (gset g 0 (g 0 + (k54 + 1))) k72 (nI ((gset g 0 (g 0 + (k54 + 1))) 0)) = true)), .int z72_2]) rfl ?_
                  refine lv_if_eq (tgt := 102) hx hb dX11_pass_95 (by decide) (fun c12 => ?_) (fun c12 => ?_)
                  · have c12 := b2i_z.mp c12
                    refine lv_iconst (v := 0) hx hb dX11_pass_102 (by decide) ?_
                    refine lv_iadd hx hb dX11_pass_103 ?_
                    refine lv_topi (fun x13 ex13 => ?_)
                    refine lv_istore_n (lv' := [(2, .int x13), (4, .int (nI k72)), (0, .ref (B 0)), (1, .int d), (3, .int (nI k54))]) hx hb dX11_pass_104 rfl hl (by decide) rfl (fun ls hl => ?_)
                    refine lv_iinc (v := nI (k72 + 1)) (lv' := [(4, .int (nI (k72 + 1))), (2, .int x13), (0, .ref (B 0)), (1, .int d), (3, .int (nI k54))]) hx hb dX11_pass_105 hl (k := 1) rfl (nI_inc _) (by decide) rfl (fun ls hl => ?_)
                    refine lv_goto (tgt := 72) hx hb dX11_pass_108 (by decide) ?_
                    exact ih72 (k72 + 1) (by omega) _ (by subst ex13; subst ez72_2; subst ez54_2; exact mPi_f (c12)) ls (lv_sub hl [0, 1, 2, 3, 4] rfl)
                  · have c12 := b2i_nz.mp c12
                    refine lv_iconst (v := 1) hx hb dX11_pass_98 (by decide) ?_
                    refine lv_goto (tgt := 103) hx hb dX11_pass_99 (by decide) ?_
                    refine lv_iadd hx hb dX11_pass_103 ?_
                    refine lv_topi (fun x14 ex14 => ?_)
                    refine lv_istore_n (lv' := [(2, .int x14), (4, .int (nI k72)), (0, .ref (B 0)), (1, .int d), (3, .int (nI k54))]) hx hb dX11_pass_104 rfl hl (by decide) rfl (fun ls hl => ?_)
                    refine lv_iinc (v := nI (k72 + 1)) (lv' := [(4, .int (nI (k72 + 1))), (2, .int x14), (0, .ref (B 0)), (1, .int d), (3, .int (nI k54))]) hx hb dX11_pass_105 hl (k := 1) rfl (nI_inc _) (by decide) rfl (fun ls hl => ?_)
                    refine lv_goto (tgt := 72) hx hb dX11_pass_108 (by decide) ?_
                    exact ih72 (k72 + 1) (by omega) _ (by subst ex14; subst ez72_2; subst ez54_2; exact mPi_t (c12)) ls (lv_sub hl [0, 1, 2, 3, 4] rfl)
            exact loop72 ((gset g 0 (g 0 + (k54 + 1))) 3) 0 (by omega) _ (by subst ez54_2; rfl) ls (lv_sub hl [0, 2, 3, 4, 1] rfl)
      exact loop54 (cnt d) 0 (by omega) _ (by rfl) _ _ hS4 hMs hG4 ls (lv_sub hl [0, 1, 2, 3] rfl)
    · have d3 := Int32.not_le.mp c3
      refine lv_iconst (v := 1) hx hb dX11_pass_36 (by decide) ?_
      refine lv_goto (tgt := 41) hx hb dX11_pass_37 (by decide) ?_
      refine lv_iconst (v := 2) hx hb dX11_pass_41 (by decide) ?_
      refine mw_V (As := [.int 1, .int 2]) (rest := []) S hD hGX hG2 hS2 (c_X11_refuse l G B 0 mc cp f g H2 hM2 rfl D (dp_le hD hS2.1) hB (True) inferInstance 2 (by decide)) (fun _ h => h) gX11_pass_X11_refuse rfl ⟨rfl, rfl⟩ nmX11_refuse ⟨Nat.le_of_ble_eq_true rfl, Nat.le_of_ble_eq_true rfl⟩ (rd_rcv hG2.1 (mP_0 hM2) rfl) rfl hl.1 rfl (Nat.le_of_ble_eq_true rfl) ⟨by show 0 + 0 ≤ 0; omega, by show 0 + 0 ≤ 0; omega⟩ dX11_pass_42 (fun H15 locs15 v15 hS15 hs15 hP15 hG15 => ?_)
      obtain ⟨hv15, hM15⟩ := hP15.1 trivial
      subst hv15
      refine W.eq (g2 := F0 mZ 45 ls [.int 1]) rfl ?_
      refine lv_if_eq (tgt := 50) hx hb dX11_pass_45 (by decide) (fun c => absurd c (by decide)) (fun _ => ?_)
      refine lv_iconst (v := 0) hx hb dX11_pass_48 (by decide) ?_
      exact mw_iret S hr hlk hS15 ⟨by show 0 ≤ 0; omega, by show 0 ≤ 0; omega⟩ dX11_pass_49 ⟨2, (by simp [tw2, c1, c3]), congrArg (fun z => some (Value.int z)) (by exact (if_neg (by decide)).symm), (by rw [if_neg (by decide)]; exact hM15)⟩
  · have c1 := b2i_z.mp c1
    refine lv_iconst (v := 1) hx hb dX11_pass_11 (by decide) ?_
    refine lv_goto (tgt := 16) hx hb dX11_pass_12 (by decide) ?_
    refine lv_iconst (v := 1) hx hb dX11_pass_16 (by decide) ?_
    refine mw_V (As := [.int 1, .int 1]) (rest := []) S hD hGX hG hS (c_X11_start l G B th mc cp f g H hM D (dp_le hD hS.1) hB (True) inferInstance 1 (by decide)) (fun _ h => h) gX11_pass_X11_start rfl ⟨rfl, rfl⟩ nmX11_start ⟨Nat.le_of_ble_eq_true rfl, Nat.le_of_ble_eq_true rfl⟩ (rd_rcv hG.1 (mP_0 hM) rfl) rfl hl.1 rfl (Nat.le_of_ble_eq_true rfl) ⟨by show 0 + 0 ≤ 0; omega, by show 0 + 0 ≤ 0; omega⟩ dX11_pass_17 (fun H16 locs16 v16 hS16 hs16 hP16 hG16 => ?_)
    obtain ⟨hv16, hM16⟩ := hP16.1 trivial
    subst hv16
    refine W.eq (g2 := F0 mZ 20 ls [.int 1]) rfl ?_
    refine lv_if_ne (tgt := 48) hx hb dX11_pass_20 (by decide) (fun _ => ?_) (fun c => absurd c (by decide))
    refine lv_iconst (v := 0) hx hb dX11_pass_48 (by decide) ?_
    exact mw_iret S hr hlk hS16 ⟨by show 0 ≤ 0; omega, by show 0 ≤ 0; omega⟩ dX11_pass_49 ⟨1, (by simp [tw2, c1]), congrArg (fun z => some (Value.int z)) (by exact (if_neg (by decide)).symm), (by rw [if_neg (by decide)]; exact hM16)⟩

