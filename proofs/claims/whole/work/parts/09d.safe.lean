/-! what is safe without anything more, by the reference -/
def mSa (f : Nat → Nat → Int32) (g : Nat → Nat) (a b : Int32) (i d : Nat) : Int32 := if d < 400 then (if nI d < nI (g 0) ∨ nI d < a ∨ (¬ b = -1 ∧ b < nI d) ∨ mUn f g i (nI d) = true then -1 else mIF f g i (nI d)) else 0
def sC (F : Nat → Nat → Int32) (k d i : Nat) : Nat → Int32 := fun j => if i < k ∨ (i = k ∧ j < d) then F i j else 0
theorem sC_0 {F : Nat → Nat → Int32} {i : Nat} : sC F 0 0 i = fun _ => 0 := by
  funext j; unfold sC; rw [if_neg (by omega)]
theorem sC_f {F : Nat → Nat → Int32} {k d i : Nat} (h : i < k) : sC F k d i = F i := by
  funext j; unfold sC; rw [if_pos (Or.inl h)]
theorem sC_n {f : Nat → Nat → Int32} {g : Nat → Nat} {a b : Int32} {k i : Nat} : sC (mSa f g a b) (k + 1) 0 i = sC (mSa f g a b) k 400 i := by
  funext j
  unfold sC
  by_cases h : i < k
  · rw [if_pos (Or.inl (by omega)), if_pos (Or.inl h)]
  · by_cases h2 : i = k
    · rw [if_pos (Or.inl (by omega))]
      by_cases h3 : j < 400
      · rw [if_pos (Or.inr ⟨h2, h3⟩)]
      · rw [if_neg (by omega)]
        exact if_neg h3
    · rw [if_neg (by omega), if_neg (by omega)]
theorem sa_put {G : GT} {H1 H2 : Heap} {h n k d : Nat} {v : Int32} {F : Nat → Nat → Int32} (hr : ∀ i, i < n → va_at G.1 vwCl (h + 1 + i, .inl (G.2.1 0, 400, .inl (sC F k d i))) H1) (hk : k < n) (ha : va_at G.1 vwCl (h + 1 + k, .inl (G.2.1 0, 400, .inl (upd (sC F k d k) (nI d).toNatClampNeg v))) H2) (hq : ∀ q : Nat, q ≠ h + 1 + k → H2[q]? = H1[q]?) (hd : d < 65536) (hv : v = F k d) : ∀ i, i < n → va_at G.1 vwCl (h + 1 + i, .inl (G.2.1 0, 400, .inl (sC F k (d + 1) i))) H2 := by
  intro i hi
  by_cases e : i = k
  · subst e
    have e2 : upd (sC F i d i) (nI d).toNatClampNeg v = sC F i (d + 1) i := by
      rw [nI_clamp (by omega), hv]
      funext j
      unfold upd sC
      by_cases h1 : j = d
      · rw [if_pos h1, if_pos (Or.inr ⟨rfl, by omega⟩), h1]
      · rw [if_neg h1]
        by_cases h2 : j < d
        · rw [if_pos (Or.inr ⟨rfl, h2⟩), if_pos (Or.inr ⟨rfl, by omega⟩)]
        · rw [if_neg (by omega), if_neg (by omega)]
    rw [e2] at ha
    exact ha
  · have e2 : sC F k (d + 1) i = sC F k d i := by
      funext j
      unfold sC
      by_cases h1 : i < k
      · rw [if_pos (Or.inl h1), if_pos (Or.inl h1)]
      · rw [if_neg (by omega), if_neg (by omega)]
    rw [e2]
    exact (hr i hi).kept (hq _ (by show h + 1 + i ≠ _; omega))
theorem nmX11_safe : nmV yX11_safe RX11 2 := by decide +kernel

set_option maxHeartbeats 1000000 in
set_option maxRecDepth 100000 in
theorem c_X11_safe (l : Launch) (G : GT) (B : Nat → Nat) (th : Int32) (mc : Nat → Int32) (cp : Nat → Nat) (f : Nat → Nat → Int32) (g : Nat → Nat) (H : Heap) (hM : MP G B th mc cp f g H) (hz : G.2.2.1 ≤ H.size) (a b : Int32) : MwV l G (fun q => H.size ≤ q) H yX11_safe wsX11_safe { frames := 7, cells := 5, slots := 1604, locals := 165 } [.ref (B 0), .int a, .int b] 5 1604 (fun v t => v = some (.ref H.size) ∧ va_at G.1 vwCl (H.size, .inl (G.2.1 2, gRef (g 3) (fun i => if i < g 3 then some (H.size + 1 + i) else none))) t ∧ (∀ i, i < g 3 → va_at G.1 vwCl (H.size + 1 + i, .inl (G.2.1 0, 400, .inl (mSa f g a b i))) t) ∧ ext H t) := by
  refine mw_of (cc := cX11_safe) (maxL := 6) (ret := (some (.array (.array .int)))) (by decide) rfl (Nat.le_of_ble_eq_true rfl) ?_
  intro pZ eZ sZ mZ bZ meZ cZ ls S hr hlk hl hHs hG hGX
  have S : CallFix pZ mZ cZ cX11_safe 6 sZ _ wsX11_safe RX11 := S
  have hx := S.1
  have hb := S.2.1
  have hown := S.2.2.2.1
  have hts := S.2.2.2.2
  have hl : lv_has ls 6 [(0, .ref (B 0)), (1, .int a), (2, .int b)] := hl
  have w0 := hts (.fieldLink RX11 23 "MinimaRoomModel" "procedures" "Ljava/util/ArrayList;") (by decide +kernel)
  have w1 := hts (.classLink RX11 234 "[[I") (by decide +kernel)
  have w2 := hts (.arrayClass .int) (by decide +kernel)
  have w3 := hts (.fieldLink RX11 156 "MinimaRoomModel" "now" "I") (by decide +kernel)
  have iX11 : ∀ w ∈ u_ws RX11 TX11 11, w ∈ wsX11_safe := by decide +kernel
  have hS : va_S (fun q => H.size ≤ q) H H [] := va_S.rf
  have hI := hM.1
  have hgb := hI.1.1
  have hg0 := hI.1.2.1
  have hg1 := hI.1.2.2.1
  have hg3 := hI.1.2.2.2.1
  have hg4 := hI.1.2.2.2.2.1
  have hg5 := hI.1.2.2.2.2.2
  have hD : DP G (fun q => H.size ≤ q) H.size := dp_new hz
  refine lv_aload_n hx hb dX11_safe_0 rfl (lv_at hl 0 rfl) ?_
  refine rd_get (own := RX11) (x := .ref (B 6)) S hG.1 iX11 (mP_0 hM) 7 rfl (by decide) w0 rfl dX11_safe_1 ?_
  refine rd_V (As := []) (rest := []) (v := some (.int (nI (g 3)))) S hG (c_Jx4a65c_size_8abf5 l G H (B 6) (eA G B cp 6 9) (mc 6) (nI (g 3)) (mP_6 hM)) gX11_safe_Jx4a65c_size_8abf5 rfl ⟨rfl, rfl⟩ nmJx4a65c_size_8abf5 ⟨Nat.le_of_ble_eq_true rfl, Nat.le_of_ble_eq_true rfl⟩ (rd_rcv hG.1 (mP_6 hM) rfl) rfl hl.1 rfl (Nat.le_of_ble_eq_true rfl) ⟨by show 0 ≤ 5; omega, by show 0 ≤ 1604; omega⟩ dX11_safe_4 ?_
  refine W.eq (g2 := F0 mZ 7 ls [.int (nI (g 3))]) rfl ?_
  refine lv_sipush (v := 400) hx hb dX11_safe_7 (by decide) ?_
  refine mw_mna (N := g 3) (K := 400) S hGX hG w1 w2 (nI_pos (by omega)) (by decide) (nI_clamp (by omega)) (by decide) (by omega) (Nat.le_of_ble_eq_true rfl) ⟨by show 0 + (1 + g 3) ≤ 5; omega, by show 0 + (g 3 + g 3 * 400) ≤ 1604; omega⟩ dX11_safe_10 (fun H1 ho1 hr1 hz1 hx1 => ?_)
  have hM1 := mp_ext hM hx1
  have hG1 := gk_ext hx1 hG
  have hS1 := vs_new hS hx1
  refine lv_astore_n (lv' := [(3, .ref (H.size)), (0, .ref (B 0)), (1, .int a), (2, .int b)]) hx hb dX11_safe_14 rfl hl (by decide) rfl (fun ls hl => ?_)
  refine lv_iconst (v := 0) hx hb dX11_safe_15 (by decide) ?_
  refine lv_istore (lv' := [(4, .int 0), (3, .ref (H.size)), (0, .ref (B 0)), (1, .int a), (2, .int b)]) hx hb dX11_safe_16 hl (by decide) rfl (fun ls hl => ?_)
  have loop18 : ∀ (n18 k18 : Nat), k18 + n18 = g 3 → ∀ (H2 : Heap) (locs2 : List Loc), va_S (fun q => H.size ≤ q) H H2 locs2 → MP G B th mc cp f g H2 → GK G H2 sZ → (va_at G.1 vwCl (H.size, .inl (G.2.1 2, gRef (g 3) (fun i => if i < g 3 then some (H.size + 1 + i) else none))) H2) → (∀ i, i < g 3 → va_at G.1 vwCl (H.size + 1 + i, .inl (G.2.1 0, 400, .inl (sC (mSa f g a b) k18 0 i))) H2) → ∀ (ls : Array Slot), lv_has ls 6 [(4, .int (nI k18)), (0, .ref (B 0)), (1, .int a), (2, .int b), (3, .ref (H.size))] → W pZ l eZ ({ frames := 7, cells := 5, slots := 1604, locals := 165 } : Room) sZ mZ ([.ref (B 0), .int a, .int b] : List Value).toArray bZ meZ cZ H2 locs2 (0 + (1 + g 3)) (0 + (g 3 + g 3 * 400)) (mw_Q bZ (fun q => H.size ≤ q) H [.ref (B 0), .int a, .int b] sZ 5 1604 (fun v t => v = some (.ref H.size) ∧ va_at G.1 vwCl (H.size, .inl (G.2.1 2, gRef (g 3) (fun i => if i < g 3 then some (H.size + 1 + i) else none))) t ∧ (∀ i, i < g 3 → va_at G.1 vwCl (H.size + 1 + i, .inl (G.2.1 0, 400, .inl (mSa f g a b i))) t) ∧ ext H t)) (F0 mZ 18 ls []) := by
    intro n18
    induction n18 with
    | zero =>
      intro k18 hk18  H2 locs2 hS2 hM2 hG2 ho2 hr2 ls hl
      obtain rfl : k18 = g 3 := by omega
      refine lv_iload hx hb dX11_safe_18 (lv_at hl 0 rfl) ?_
      refine lv_aload_n hx hb dX11_safe_20 rfl (lv_at hl 4 rfl) ?_
      refine mw_alen S hG2.1 ho2 dX11_safe_21 ?_
      refine lv_icmp_ge (tgt := 104) hx hb dX11_safe_22 (by decide) (fun c3 => ?_) (fun c3 => ?_)
      · have d3 := Int32.not_lt.mpr c3
        refine lv_aload_n hx hb dX11_safe_104 rfl (lv_at hl 4 rfl) ?_
        exact mw_aret S hr (by first | exact Or.inl ⟨_, rfl⟩ | exact Or.inr ⟨_, rfl⟩) (by first | exact Or.inl rfl | exact Or.inr ⟨_, rfl⟩) hlk hS2 ⟨by show (0 + (1 + g 3)) ≤ 5; omega, by show (0 + (g 3 + g 3 * 400)) ≤ 1604; omega⟩ dX11_safe_105 ⟨rfl, ho2, (fun i hi => by have h9 := hr2 i hi; rw [sC_f hi] at h9; exact h9), ext_of hS2⟩
      · exact absurd (nI_le (by omega) (by omega)) c3
    | succ n18 ih18 =>
      intro k18 hk18  H2 locs2 hS2 hM2 hG2 ho2 hr2 ls hl
      refine lv_iload hx hb dX11_safe_18 (lv_at hl 0 rfl) ?_
      refine lv_aload_n hx hb dX11_safe_20 rfl (lv_at hl 4 rfl) ?_
      refine mw_alen S hG2.1 ho2 dX11_safe_21 ?_
      refine lv_icmp_ge (tgt := 104) hx hb dX11_safe_22 (by decide) (fun c4 => ?_) (fun c4 => ?_)
      · exact absurd c4 (nI_ge (by omega) (by omega))
      · have d4 := Int32.not_le.mp c4
        refine lv_iconst (v := 0) hx hb dX11_safe_25 (by decide) ?_
        refine lv_istore (lv' := [(5, .int 0), (4, .int (nI k18)), (0, .ref (B 0)), (1, .int a), (2, .int b), (3, .ref (H.size))]) hx hb dX11_safe_26 hl (by decide) rfl (fun ls hl => ?_)
        have loop28 : ∀ (n28 k28 : Nat), k28 + n28 = 400 → ∀ (H5 : Heap) (locs5 : List Loc), va_S (fun q => H.size ≤ q) H H5 locs5 → MP G B th mc cp f g H5 → GK G H5 sZ → (va_at G.1 vwCl (H.size, .inl (G.2.1 2, gRef (g 3) (fun i => if i < g 3 then some (H.size + 1 + i) else none))) H5) → (∀ i, i < g 3 → va_at G.1 vwCl (H.size + 1 + i, .inl (G.2.1 0, 400, .inl (sC (mSa f g a b) k18 k28 i))) H5) → ∀ (ls : Array Slot), lv_has ls 6 [(5, .int (nI k28)), (0, .ref (B 0)), (1, .int a), (2, .int b), (3, .ref (H.size)), (4, .int (nI k18))] → W pZ l eZ ({ frames := 7, cells := 5, slots := 1604, locals := 165 } : Room) sZ mZ ([.ref (B 0), .int a, .int b] : List Value).toArray bZ meZ cZ H5 locs5 (0 + (1 + g 3)) (0 + (g 3 + g 3 * 400)) (mw_Q bZ (fun q => H.size ≤ q) H [.ref (B 0), .int a, .int b] sZ 5 1604 (fun v t => v = some (.ref H.size) ∧ va_at G.1 vwCl (H.size, .inl (G.2.1 2, gRef (g 3) (fun i => if i < g 3 then some (H.size + 1 + i) else none))) t ∧ (∀ i, i < g 3 → va_at G.1 vwCl (H.size + 1 + i, .inl (G.2.1 0, 400, .inl (mSa f g a b i))) t) ∧ ext H t)) (F0 mZ 28 ls []) := by
          intro n28
          induction n28 with
          | zero =>
            intro k28 hk28  H5 locs5 hS5 hM5 hG5 ho5 hr5 ls hl
            obtain rfl : k28 = 400 := by omega
            refine lv_iload hx hb dX11_safe_28 (lv_at hl 0 rfl) ?_
            refine lv_sipush (v := 399) hx hb dX11_safe_30 (by decide) ?_
            refine lv_icmp_gt (tgt := 98) hx hb dX11_safe_33 (by decide) (fun c6 => ?_) (fun c6 => ?_)
            · have d6 := Int32.not_le.mpr c6
              refine lv_iinc (v := nI (k18 + 1)) (lv' := [(4, .int (nI (k18 + 1))), (5, .int (nI 400)), (0, .ref (B 0)), (1, .int a), (2, .int b), (3, .ref (H.size))]) hx hb dX11_safe_98 hl (k := 5) rfl (nI_inc _) (by decide) rfl (fun ls hl => ?_)
              refine lv_goto (tgt := 18) hx hb dX11_safe_101 (by decide) ?_
              exact ih18 (k18 + 1) (by omega) _ _ hS5 hM5 hG5 ho5 (fun i hi => by rw [sC_n]; exact hr5 i hi) ls (lv_sub hl [0, 2, 3, 4, 5] rfl)
            · have c6 : ¬ (nI 399 < nI 400) := c6; exact absurd (nI_lt (by omega) (by omega)) c6
          | succ n28 ih28 =>
            intro k28 hk28  H5 locs5 hS5 hM5 hG5 ho5 hr5 ls hl
            refine lv_iload hx hb dX11_safe_28 (lv_at hl 0 rfl) ?_
            refine lv_sipush (v := 399) hx hb dX11_safe_30 (by decide) ?_
            refine lv_icmp_gt (tgt := 98) hx hb dX11_safe_33 (by decide) (fun c7 => ?_) (fun c7 => ?_)
            · have c7 : nI 399 < nI k28 := c7; exact absurd c7 (nI_nlt (by omega) (by omega))
            · have d7 := Int32.not_lt.mp c7
              refine lv_aload_n hx hb dX11_safe_36 rfl (lv_at hl 4 rfl) ?_
              refine lv_iload hx hb dX11_safe_37 (lv_at hl 5 rfl) ?_
              refine mw_aald (x := H.size + 1 + k18) S hG5.1 ho5 (vp_in_nI (by omega) (by omega)) (by rw [nI_clamp (by omega)]; exact if_pos (by omega)) dX11_safe_39 ?_
              refine lv_iload hx hb dX11_safe_40 (lv_at hl 0 rfl) ?_
              refine lv_iload hx hb dX11_safe_42 (lv_at hl 0 rfl) ?_
              refine lv_aload_n hx hb dX11_safe_44 rfl (lv_at hl 1 rfl) ?_
              refine rd_get (own := RX11) (x := .int (nI (g 0))) S hG5.1 iX11 (mP_0 hM5) 1 rfl (by decide) w3 rfl dX11_safe_45 ?_
              refine lv_icmp_lt (tgt := 79) hx hb dX11_safe_48 (by decide) (fun c8 => ?_) (fun c8 => ?_)
              · have d8 := Int32.not_le.mpr c8
                refine lv_iconst (v := (-1)) hx hb dX11_safe_79 (by decide) ?_
                refine lv_goto (tgt := 91) hx hb dX11_safe_80 (by decide) ?_
                refine mw_iast S hD hG5 hS5 (hD.1 _ (by omega)) (hr5 k18 (by omega)) (vp_in_nI (by omega) (by decide)) dX11_safe_91 (fun H9 locs9 ha9 hz9 hq9 hS9 hG9 => ?_)
                have hM9 := mp_kept hM5 (fun k hk => hq9 _ (Nat.ne_of_lt (Nat.lt_of_lt_of_le (mp_lt hM hk) (by omega))))
                have ho9 := va_at.kept ho5 (hq9 _ (by show H.size ≠ _; omega))
                have hr9 := sa_put hr5 (by omega) ha9 hq9 (by omega) (by unfold mSa; rw [if_pos (by omega), if_pos (by simp [c4, d4, c7, d7, c8, d8])])
                refine lv_iinc (v := nI (k28 + 1)) (lv' := [(5, .int (nI (k28 + 1))), (0, .ref (B 0)), (1, .int a), (2, .int b), (3, .ref (H.size)), (4, .int (nI k18))]) hx hb dX11_safe_92 hl (k := 0) rfl (nI_inc _) (by decide) rfl (fun ls hl => ?_)
                refine lv_goto (tgt := 28) hx hb dX11_safe_95 (by decide) ?_
                exact ih28 (k28 + 1) (by omega) _ _ hS9 hM9 hG9 ho9 hr9 ls (lv_sub hl [0, 1, 2, 3, 4, 5] rfl)
              · have d8 := Int32.not_lt.mp c8
                refine lv_iload hx hb dX11_safe_51 (lv_at hl 0 rfl) ?_
                refine lv_iload_n hx hb dX11_safe_53 rfl (lv_at hl 2 rfl) ?_
                refine lv_icmp_lt (tgt := 79) hx hb dX11_safe_54 (by decide) (fun c10 => ?_) (fun c10 => ?_)
                · have d10 := Int32.not_le.mpr c10
                  refine lv_iconst (v := (-1)) hx hb dX11_safe_79 (by decide) ?_
                  refine lv_goto (tgt := 91) hx hb dX11_safe_80 (by decide) ?_
                  refine mw_iast S hD hG5 hS5 (hD.1 _ (by omega)) (hr5 k18 (by omega)) (vp_in_nI (by omega) (by decide)) dX11_safe_91 (fun H11 locs11 ha11 hz11 hq11 hS11 hG11 => ?_)
                  have hM11 := mp_kept hM5 (fun k hk => hq11 _ (Nat.ne_of_lt (Nat.lt_of_lt_of_le (mp_lt hM hk) (by omega))))
                  have ho11 := va_at.kept ho5 (hq11 _ (by show H.size ≠ _; omega))
                  have hr11 := sa_put hr5 (by omega) ha11 hq11 (by omega) (by unfold mSa; rw [if_pos (by omega), if_pos (by simp [c4, d4, c7, d7, c8, d8, c10, d10])])
                  refine lv_iinc (v := nI (k28 + 1)) (lv' := [(5, .int (nI (k28 + 1))), (0, .ref (B 0)), (1, .int a), (2, .int b), (3, .ref (H.size)), (4, .int (nI k18))]) hx hb dX11_safe_92 hl (k := 0) rfl (nI_inc _) (by decide) rfl (fun ls hl => ?_)
                  refine lv_goto (tgt := 28) hx hb dX11_safe_95 (by decide) ?_
                  exact ih28 (k28 + 1) (by omega) _ _ hS11 hM11 hG11 ho11 hr11 ls (lv_sub hl [0, 1, 2, 3, 4, 5] rfl)
                · have d10 := Int32.not_lt.mp c10
                  refine lv_iload_n hx hb dX11_safe_57 rfl (lv_at hl 3 rfl) ?_
                  refine lv_iconst (v := (-1)) hx hb dX11_safe_58 (by decide) ?_
                  refine lv_icmp_eq (tgt := 68) hx hb dX11_safe_59 (by decide) (fun c12 => ?_) (fun c12 => ?_)
                  · refine lv_aload_n hx hb dX11_safe_68 rfl (lv_at hl 1 rfl) ?_
                    refine lv_iload hx hb dX11_safe_69 (lv_at hl 5 rfl) ?_
                    refine lv_iload hx hb dX11_safe_71 (lv_at hl 0 rfl) ?_
                    refine rd_V (As := [.int (nI k18), .int (nI k28)]) (rest := [.int (nI k28), .ref (H.size + 1 + k18)]) (v := some (.int (b2i (mUn f g k18 (nI k28) = true)))) S hG5 (c_X11_isUnsafe l G B th mc cp f g H5 hM5 k18 (nI k28) (by omega)) gX11_safe_X11_isUnsafe rfl ⟨rfl, rfl⟩ nmX11_isUnsafe ⟨Nat.le_of_ble_eq_true rfl, Nat.le_of_ble_eq_true rfl⟩ (rd_rcv hG5.1 (mP_0 hM5) rfl) rfl hl.1 rfl (Nat.le_of_ble_eq_true rfl) ⟨by show (0 + (1 + g 3)) ≤ 5; omega, by show (0 + (g 3 + g 3 * 400)) ≤ 1604; omega⟩ dX11_safe_73 ?_
                    refine W.eq (g2 := F0 mZ 76 ls [.int (b2i (mUn f g k18 (nI k28) = true)), .int (nI k28), .ref (H.size + 1 + k18)]) rfl ?_
                    refine lv_if_eq (tgt := 83) hx hb dX11_safe_76 (by decide) (fun c13 => ?_) (fun c13 => ?_)
                    · have c13 := b2i_z.mp c13
                      refine lv_aload_n hx hb dX11_safe_83 rfl (lv_at hl 1 rfl) ?_
                      refine lv_iload hx hb dX11_safe_84 (lv_at hl 5 rfl) ?_
                      refine lv_iload hx hb dX11_safe_86 (lv_at hl 0 rfl) ?_
                      refine rd_V (As := [.int (nI k18), .int (nI k28)]) (rest := [.int (nI k28), .ref (H.size + 1 + k18)]) (v := some (.int (mIF f g k18 (nI k28)))) S hG5 (c_X11_inForceNow l G B th mc cp f g H5 hM5 k18 (nI k28) (by omega)) gX11_safe_X11_inForceNow rfl ⟨rfl, rfl⟩ nmX11_inForceNow ⟨Nat.le_of_ble_eq_true rfl, Nat.le_of_ble_eq_true rfl⟩ (rd_rcv hG5.1 (mP_0 hM5) rfl) rfl hl.1 rfl (Nat.le_of_ble_eq_true rfl) ⟨by show (0 + (1 + g 3)) ≤ 5; omega, by show (0 + (g 3 + g 3 * 400)) ≤ 1604; omega⟩ dX11_safe_88 ?_
                      refine W.eq (g2 := F0 mZ 91 ls [.int (mIF f g k18 (nI k28)), .int (nI k28), .ref (H.size + 1 + k18)]) rfl ?_
                      refine mw_iast S hD hG5 hS5 (hD.1 _ (by omega)) (hr5 k18 (by omega)) (vp_in_nI (by omega) (by decide)) dX11_safe_91 (fun H14 locs14 ha14 hz14 hq14 hS14 hG14 => ?_)
                      have hM14 := mp_kept hM5 (fun k hk => hq14 _ (Nat.ne_of_lt (Nat.lt_of_lt_of_le (mp_lt hM hk) (by omega))))
                      have ho14 := va_at.kept ho5 (hq14 _ (by show H.size ≠ _; omega))
                      have hr14 := sa_put hr5 (by omega) ha14 hq14 (by omega) (by unfold mSa; rw [if_pos (by omega), if_neg (by simp [c4, d4, c7, d7, c8, d8, c10, d10, c12, c13])])
                      refine lv_iinc (v := nI (k28 + 1)) (lv' := [(5, .int (nI (k28 + 1))), (0, .ref (B 0)), (1, .int a), (2, .int b), (3, .ref (H.size)), (4, .int (nI k18))]) hx hb dX11_safe_92 hl (k := 0) rfl (nI_inc _) (by decide) rfl (fun ls hl => ?_)
                      refine lv_goto (tgt := 28) hx hb dX11_safe_95 (by decide) ?_
                      exact ih28 (k28 + 1) (by omega) _ _ hS14 hM14 hG14 ho14 hr14 ls (lv_sub hl [0, 1, 2, 3, 4, 5] rfl)
                    · have c13 := b2i_nz.mp c13
                      refine lv_iconst (v := (-1)) hx hb dX11_safe_79 (by decide) ?_
                      refine lv_goto (tgt := 91) hx hb dX11_safe_80 (by decide) ?_
                      refine mw_iast S hD hG5 hS5 (hD.1 _ (by omega)) (hr5 k18 (by omega)) (vp_in_nI (by omega) (by decide)) dX11_safe_91 (fun H15 locs15 ha15 hz15 hq15 hS15 hG15 => ?_)
                      have hM15 := mp_kept hM5 (fun k hk => hq15 _ (Nat.ne_of_lt (Nat.lt_of_lt_of_le (mp_lt hM hk) (by omega))))
                      have ho15 := va_at.kept ho5 (hq15 _ (by show H.size ≠ _; omega))
                      have hr15 := sa_put hr5 (by omega) ha15 hq15 (by omega) (by unfold mSa; rw [if_pos (by omega), if_pos (by simp [c4, d4, c7, d7, c8, d8, c10, d10, c12, c13])])
                      refine lv_iinc (v := nI (k28 + 1)) (lv' := [(5, .int (nI (k28 + 1))), (0, .ref (B 0)), (1, .int a), (2, .int b), (3, .ref (H.size)), (4, .int (nI k18))]) hx hb dX11_safe_92 hl (k := 0) rfl (nI_inc _) (by decide) rfl (fun ls hl => ?_)
                      refine lv_goto (tgt := 28) hx hb dX11_safe_95 (by decide) ?_
                      exact ih28 (k28 + 1) (by omega) _ _ hS15 hM15 hG15 ho15 hr15 ls (lv_sub hl [0, 1, 2, 3, 4, 5] rfl)
                  · refine lv_iload hx hb dX11_safe_62 (lv_at hl 0 rfl) ?_
                    refine lv_iload_n hx hb dX11_safe_64 rfl (lv_at hl 3 rfl) ?_
                    refine lv_icmp_gt (tgt := 79) hx hb dX11_safe_65 (by decide) (fun c16 => ?_) (fun c16 => ?_)
                    · have d16 := Int32.not_le.mpr c16
                      refine lv_iconst (v := (-1)) hx hb dX11_safe_79 (by decide) ?_
                      refine lv_goto (tgt := 91) hx hb dX11_safe_80 (by decide) ?_
                      refine mw_iast S hD hG5 hS5 (hD.1 _ (by omega)) (hr5 k18 (by omega)) (vp_in_nI (by omega) (by decide)) dX11_safe_91 (fun H17 locs17 ha17 hz17 hq17 hS17 hG17 => ?_)
                      have hM17 := mp_kept hM5 (fun k hk => hq17 _ (Nat.ne_of_lt (Nat.lt_of_lt_of_le (mp_lt hM hk) (by omega))))
                      have ho17 := va_at.kept ho5 (hq17 _ (by show H.size ≠ _; omega))
                      have hr17 := sa_put hr5 (by omega) ha17 hq17 (by omega) (by unfold mSa; rw [if_pos (by omega), if_pos (by simp [c4, d4, c7, d7, c8, d8, c10, d10, c12, c16, d16])])
                      refine lv_iinc (v := nI (k28 + 1)) (lv' := [(5, .int (nI (k28 + 1))), (0, .ref (B 0)), (1, .int a), (2, .int b), (3, .ref (H.size)), (4, .int (nI k18))]) hx hb dX11_safe_92 hl (k := 0) rfl (nI_inc _) (by decide) rfl (fun ls hl => ?_)
                      refine lv_goto (tgt := 28) hx hb dX11_safe_95 (by decide) ?_
                      exact ih28 (k28 + 1) (by omega) _ _ hS17 hM17 hG17 ho17 hr17 ls (lv_sub hl [0, 1, 2, 3, 4, 5] rfl)
                    · have d16 := Int32.not_lt.mp c16
                      refine lv_aload_n hx hb dX11_safe_68 rfl (lv_at hl 1 rfl) ?_
                      refine lv_iload hx hb dX11_safe_69 (lv_at hl 5 rfl) ?_
                      refine lv_iload hx hb dX11_safe_71 (lv_at hl 0 rfl) ?_
                      refine rd_V (As := [.int (nI k18), .int (nI k28)]) (rest := [.int (nI k28), .ref (H.size + 1 + k18)]) (v := some (.int (b2i (mUn f g k18 (nI k28) = true)))) S hG5 (c_X11_isUnsafe l G B th mc cp f g H5 hM5 k18 (nI k28) (by omega)) gX11_safe_X11_isUnsafe rfl ⟨rfl, rfl⟩ nmX11_isUnsafe ⟨Nat.le_of_ble_eq_true rfl, Nat.le_of_ble_eq_true rfl⟩ (rd_rcv hG5.1 (mP_0 hM5) rfl) rfl hl.1 rfl (Nat.le_of_ble_eq_true rfl) ⟨by show (0 + (1 + g 3)) ≤ 5; omega, by show (0 + (g 3 + g 3 * 400)) ≤ 1604; omega⟩ dX11_safe_73 ?_
                      refine W.eq (g2 := F0 mZ 76 ls [.int (b2i (mUn f g k18 (nI k28) = true)), .int (nI k28), .ref (H.size + 1 + k18)]) rfl ?_
                      refine lv_if_eq (tgt := 83) hx hb dX11_safe_76 (by decide) (fun c18 => ?_) (fun c18 => ?_)
                      · have c18 := b2i_z.mp c18
                        refine lv_aload_n hx hb dX11_safe_83 rfl (lv_at hl 1 rfl) ?_
                        refine lv_iload hx hb dX11_safe_84 (lv_at hl 5 rfl) ?_
                        refine lv_iload hx hb dX11_safe_86 (lv_at hl 0 rfl) ?_
                        refine rd_V (As := [.int (nI k18), .int (nI k28)]) (rest := [.int (nI k28), .ref (H.size + 1 + k18)]) (v := some (.int (mIF f g k18 (nI k28)))) S hG5 (c_X11_inForceNow l G B th mc cp f g H5 hM5 k18 (nI k28) (by omega)) gX11_safe_X11_inForceNow rfl ⟨rfl, rfl⟩ nmX11_inForceNow ⟨Nat.le_of_ble_eq_true rfl, Nat.le_of_ble_eq_true rfl⟩ (rd_rcv hG5.1 (mP_0 hM5) rfl) rfl hl.1 rfl (Nat.le_of_ble_eq_true rfl) ⟨by show (0 + (1 + g 3)) ≤ 5; omega, by show (0 + (g 3 + g 3 * 400)) ≤ 1604; omega⟩ dX11_safe_88 ?_
                        refine W.eq (g2 := F0 mZ 91 ls [.int (mIF f g k18 (nI k28)), .int (nI k28), .ref (H.size + 1 + k18)]) rfl ?_
                        refine mw_iast S hD hG5 hS5 (hD.1 _ (by omega)) (hr5 k18 (by omega)) (vp_in_nI (by omega) (by decide)) dX11_safe_91 (fun H19 locs19 ha19 hz19 hq19 hS19 hG19 => ?_)
                        have hM19 := mp_kept hM5 (fun k hk => hq19 _ (Nat.ne_of_lt (Nat.lt_of_lt_of_le (mp_lt hM hk) (by omega))))
                        have ho19 := va_at.kept ho5 (hq19 _ (by show H.size ≠ _; omega))
                        have hr19 := sa_put hr5 (by omega) ha19 hq19 (by omega) (by unfold mSa; rw [if_pos (by omega), if_neg (by simp [c4, d4, c7, d7, c8, d8, c10, d10, c12, c16, d16, c18])])
                        refine lv_iinc (v := nI (k28 + 1)) (lv' := [(5, .int (nI (k28 + 1))), (0, .ref (B 0)), (1, .int a), (2, .int b), (3, .ref (H.size)), (4, .int (nI k18))]) hx hb dX11_safe_92 hl (k := 0) rfl (nI_inc _) (by decide) rfl (fun ls hl => ?_)
                        refine lv_goto (tgt := 28) hx hb dX11_safe_95 (by decide) ?_
                        exact ih28 (k28 + 1) (by omega) _ _ hS19 hM19 hG19 ho19 hr19 ls (lv_sub hl [0, 1, 2, 3, 4, 5] rfl)
                      · have c18 := b2i_nz.mp c18
                        refine lv_iconst (v := (-1)) hx hb dX11_safe_79 (by decide) ?_
                        refine lv_goto (tgt := 91) hx hb dX11_safe_80 (by decide) ?_
                        refine mw_iast S hD hG5 hS5 (hD.1 _ (by omega)) (hr5 k18 (by omega)) (vp_in_nI (by omega) (by decide)) dX11_safe_91 (fun H20 locs20 ha20 hz20 hq20 hS20 hG20 => ?_)
                        have hM20 := mp_kept hM5 (fun k hk => hq20 _ (Nat.ne_of_lt (Nat.lt_of_lt_of_le (mp_lt hM hk) (by omega))))
                        have ho20 := va_at.kept ho5 (hq20 _ (by show H.size ≠ _; omega))
                        have hr20 := sa_put hr5 (by omega) ha20 hq20 (by omega) (by unfold mSa; rw [if_pos (by omega), if_pos (by simp [c4, d4, c7, d7, c8, d8, c10, d10, c12, c16, d16, c18])])
                        refine lv_iinc (v := nI (k28 + 1)) (lv' := [(5, .int (nI (k28 + 1))), (0, .ref (B 0)), (1, .int a), (2, .int b), (3, .ref (H.size)), (4, .int (nI k18))]) hx hb dX11_safe_92 hl (k := 0) rfl (nI_inc _) (by decide) rfl (fun ls hl => ?_)
                        refine lv_goto (tgt := 28) hx hb dX11_safe_95 (by decide) ?_
                        exact ih28 (k28 + 1) (by omega) _ _ hS20 hM20 hG20 ho20 hr20 ls (lv_sub hl [0, 1, 2, 3, 4, 5] rfl)
        exact loop28 400 0 (by omega) _ _ hS2 hM2 hG2 ho2 hr2 ls (lv_sub hl [0, 2, 3, 4, 5, 1] rfl)
  exact loop18 (g 3) 0 (by omega) _ _ hS1 hM1 hG1 ho1 (fun i hi => by rw [sC_0]; exact hr1 i hi) ls (lv_sub hl [0, 2, 3, 4, 1] rfl)

