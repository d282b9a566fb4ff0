/-! the highest permit, by the reference -/
theorem hlo_ {lo hi : Nat} (h3 : hi < 65536) (h2 : lo ≤ hi) (h : ¬ nI lo < nI hi) : lo = hi := by
  have h9 : ¬ lo < hi := fun h8 => h (nI_lt h8 (by omega))
  omega
theorem hi9_ {m hi : Nat} (h : m < hi) (h3 : hi ≤ 1000) (h2 : ¬ nI (m + 1) ≤ 999) : m = 1000 - 1 := by
  have h9 : ¬ m + 1 ≤ 999 := fun h8 => h2 (nI_le (a := m + 1) (b := 999) h8 (by decide))
  omega
theorem nmX11_highest : nmV yX11_highest RX11 4 := by decide +kernel

set_option maxHeartbeats 1000000 in
set_option maxRecDepth 100000 in
theorem c_X11_highest (l : Launch) (G : GT) (B : Nat → Nat) (th : Int32) (mc : Nat → Int32) (cp : Nat → Nat) (f : Nat → Nat → Int32) (g : Nat → Nat) (H : Heap) (hM : MP G B th mc cp f g H) (D : Nat → Prop) (hD : DP G D H.size) (hB : DB D B cp g) (x y a b : Int32) : MwV l G D H yX11_highest wsX11_highest { frames := 8, cells := 15, slots := 1654, locals := 190 } [.ref (B 0), .int x, .int y, .int a, .int b] 15 1654 (fun v u => ∃ mt : Int32, mt = tw1 (mNP x y a b = true) ∧ (mt = 0 → ∃ r : Nat, r ≤ 1000 ∧ v = some (.int (nI r - 1)) ∧ (r = 0 ∨ mHa f g x y (nI (r - 1)) a b (mSa f g a b) = 0) ∧ (r = 1000 ∨ ¬ mHa f g x y (nI r) a b (mSa f g a b) = 0)) ∧ (¬ mt = 0 → v = some (.int 0)) ∧ MP G B mt mc cp f g u) := by
  refine mw_of (cc := cX11_highest) (maxL := 9) (ret := (some .int)) (by decide) rfl (Nat.le_of_ble_eq_true rfl) ?_
  intro pZ eZ sZ mZ bZ meZ cZ ls S hr hlk hl hHs hG hGX
  have S : CallFix pZ mZ cZ cX11_highest 9 sZ _ wsX11_highest RX11 := S
  have hx := S.1
  have hb := S.2.1
  have hown := S.2.2.2.1
  have hts := S.2.2.2.2
  have hl : lv_has ls 9 [(0, .ref (B 0)), (1, .int x), (2, .int y), (3, .int a), (4, .int b)] := hl
  have w0 := hts (.classLink RX11 75 RX9) (by decide +kernel)
  have w1 := hts (.instantiable RX9 5) (by decide +kernel)
  have w2 := hts (.initialized RX9) (by decide +kernel)
  have w3 := hts (.methodLink RX11 145 yX9_init) (by decide +kernel)
  have w4 := hts (.instanceMethod yX9_init) (by decide +kernel)
  have iX9 : ∀ w ∈ u_ws RX9 TX9 5, w ∈ wsX11_highest := by decide +kernel
  have hS : va_S D H H [] := va_S.rf
  have hI := hM.1
  have hgb := hI.1.1
  have hg0 := hI.1.2.1
  have hg1 := hI.1.2.2.1
  have hg3 := hI.1.2.2.2.1
  have hg4 := hI.1.2.2.2.2.1
  have hg5 := hI.1.2.2.2.2.2
  refine lv_aload_n hx hb dX11_highest_0 rfl (lv_at hl 0 rfl) ?_
  refine lv_iload_n hx hb dX11_highest_1 rfl (lv_at hl 1 rfl) ?_
  refine lv_iload_n hx hb dX11_highest_2 rfl (lv_at hl 2 rfl) ?_
  refine lv_iload_n hx hb dX11_highest_3 rfl (lv_at hl 3 rfl) ?_
  refine lv_iload hx hb dX11_highest_4 (lv_at hl 4 rfl) ?_
  refine rd_S (As := [.int x, .int y, .int a, .int b]) (rest := [.ref (B 0)]) (v := some (.int (b2i (mNP x y a b = true)))) S hG (c_X11_isNoPlace l G H x y a b) gX11_highest_X11_isNoPlace rfl ⟨rfl, rfl⟩ nmX11_isNoPlace ⟨Nat.le_of_ble_eq_true rfl, Nat.le_of_ble_eq_true rfl⟩ rfl hl.1 rfl (Nat.le_of_ble_eq_true rfl) ⟨by show 0 ≤ 15; omega, by show 0 ≤ 1654; omega⟩ dX11_highest_6 ?_
  refine W.eq (g2 := F0 mZ 9 ls [.int (b2i (mNP x y a b = true)), .ref (B 0)]) rfl ?_
  refine lv_iconst (v := 1) hx hb dX11_highest_9 (by decide) ?_
  refine mw_V (As := [.int (b2i (mNP x y a b = true)), .int 1]) (rest := []) S hD hGX hG hS (c_X11_start l G B th mc cp f g H hM D (dp_le hD hS.1) hB (mNP x y a b = true) inferInstance 1 (by decide)) (fun _ h => h) gX11_highest_X11_start rfl ⟨rfl, rfl⟩ nmX11_start ⟨Nat.le_of_ble_eq_true rfl, Nat.le_of_ble_eq_true rfl⟩ (rd_rcv hG.1 (mP_0 hM) rfl) rfl hl.1 rfl (Nat.le_of_ble_eq_true rfl) ⟨by show 0 + 0 ≤ 15; omega, by show 0 + 0 ≤ 1654; omega⟩ dX11_highest_10 (fun H1 locs1 v1 hS1 hs1 hP1 hG1 => ?_)
  by_cases p1 : mNP x y a b = true
  · obtain ⟨hv1, hM1⟩ := hP1.1 p1
    subst hv1
    refine W.eq (g2 := F0 mZ 13 ls [.int 1]) rfl ?_
    refine lv_if_eq (tgt := 18) hx hb dX11_highest_13 (by decide) (fun c => absurd c (by decide)) (fun _ => ?_)
    refine lv_iconst (v := 0) hx hb dX11_highest_16 (by decide) ?_
    exact mw_iret S hr hlk hS1 ⟨by show 0 ≤ 15; omega, by show 0 ≤ 1654; omega⟩ dX11_highest_17 ⟨1, (by simp [tw1, p1]), fun h => absurd h (by decide), fun _ => rfl, hM1⟩
  · obtain ⟨hv1, hM1⟩ := hP1.2 p1
    subst hv1
    refine W.eq (g2 := F0 mZ 13 ls [.int 0]) rfl ?_
    refine lv_if_eq (tgt := 18) hx hb dX11_highest_13 (by decide) (fun _ => ?_) (fun c => absurd (by decide) c)
    refine lv_aload_n hx hb dX11_highest_18 rfl (lv_at hl 0 rfl) ?_
    refine lv_iload_n hx hb dX11_highest_19 rfl (lv_at hl 3 rfl) ?_
    refine lv_iload hx hb dX11_highest_20 (lv_at hl 4 rfl) ?_
    refine mw_V (As := [.int a, .int b]) (rest := []) S hD hGX hG1 hS1 (c_X11_safe l G B 0 mc cp f g H1 hM1 (Nat.le_trans (hD.2 _ (hD.1 _ (Nat.le_refl _))) hS1.1) a b) (fun q h => hD.1 q (Nat.le_trans hS1.1 h)) gX11_highest_X11_safe rfl ⟨rfl, rfl⟩ nmX11_safe ⟨Nat.le_of_ble_eq_true rfl, Nat.le_of_ble_eq_true rfl⟩ (rd_rcv hG1.1 (mP_0 hM1) rfl) rfl hl.1 rfl (Nat.le_of_ble_eq_true rfl) ⟨by show 0 + 5 ≤ 15; omega, by show 0 + 1604 ≤ 1654; omega⟩ dX11_highest_22 (fun H2 locs2 v2 hS2 hs2 hP2 hG2 => ?_)
    obtain ⟨hv2, ho2, hr2, hx2⟩ := hP2
    subst hv2
    have hM2 := mp_ext hM1 hx2
    refine W.eq (g2 := F0 mZ 25 ls [.ref H1.size]) rfl ?_
    refine lv_astore (lv' := [(5, .ref H1.size), (0, .ref (B 0)), (1, .int x), (2, .int y), (3, .int a), (4, .int b)]) hx hb dX11_highest_25 hl (by decide) rfl (fun ls hl => ?_)
    refine lv_iconst (v := 0) hx hb dX11_highest_27 (by decide) ?_
    refine lv_istore (lv' := [(6, .int 0), (5, .ref H1.size), (0, .ref (B 0)), (1, .int x), (2, .int y), (3, .int a), (4, .int b)]) hx hb dX11_highest_28 hl (by decide) rfl (fun ls hl => ?_)
    refine lv_sipush (v := 1000) hx hb dX11_highest_30 (by decide) ?_
    refine lv_istore (lv' := [(7, .int 1000), (6, .int 0), (5, .ref H1.size), (0, .ref (B 0)), (1, .int x), (2, .int y), (3, .int a), (4, .int b)]) hx hb dX11_highest_33 hl (by decide) rfl (fun ls hl => ?_)
    have loop35 : ∀ (n lo hi cq sq : Nat), hi - lo < 2 ^ n → lo ≤ hi → hi ≤ 1000 → (lo = 0 ∨ mHa f g x y (nI (lo - 1)) a b (mSa f g a b) = 0) → (hi = 1000 ∨ ¬ mHa f g x y (nI hi) a b (mSa f g a b) = 0) → cq + n ≤ 15 → sq + 5 * n ≤ 1654 → ∀ (H3 : Heap) (locs3 : List Loc), va_S D H H3 locs3 → MP G B 0 mc cp f g H3 → GK G H3 sZ → va_at G.1 vwCl (H1.size, .inl (G.2.1 2, gRef (g 3) (fun i => if i < g 3 then some (H1.size + 1 + i) else none))) H3 → (∀ i, i < g 3 → va_at G.1 vwCl (H1.size + 1 + i, .inl (G.2.1 0, 400, .inl (mSa f g a b i))) H3) → ∀ (ls : Array Slot), lv_has ls 9 [(6, .int (nI lo)), (7, .int (nI hi)), (5, .ref H1.size), (0, .ref (B 0)), (1, .int x), (2, .int y), (3, .int a), (4, .int b)] → W pZ l eZ ({ frames := 8, cells := 15, slots := 1654, locals := 190 } : Room) sZ mZ ([.ref (B 0), .int x, .int y, .int a, .int b] : List Value).toArray bZ meZ cZ H3 locs3 cq sq (mw_Q bZ D H [.ref (B 0), .int x, .int y, .int a, .int b] sZ 15 1654 (fun v u => ∃ mt : Int32, mt = tw1 (mNP x y a b = true) ∧ (mt = 0 → ∃ r : Nat, r ≤ 1000 ∧ v = some (.int (nI r - 1)) ∧ (r = 0 ∨ mHa f g x y (nI (r - 1)) a b (mSa f g a b) = 0) ∧ (r = 1000 ∨ ¬ mHa f g x y (nI r) a b (mSa f g a b) = 0)) ∧ (¬ mt = 0 → v = some (.int 0)) ∧ MP G B mt mc cp f g u)) (F0 mZ 35 ls []) := by
      intro n
      induction n with
      | zero =>
        intro lo hi cq sq h1 h2 h3 h4 h5 hc9 hs9 H3 locs3 hS3 hM3 hG3 ho3 hr3 ls hl
        refine lv_iload hx hb dX11_highest_35 (lv_at hl 0 rfl) ?_
        refine lv_iload hx hb dX11_highest_37 (lv_at hl 1 rfl) ?_
        refine lv_icmp_ge (tgt := 102) hx hb dX11_highest_39 (by decide) (fun c4 => ?_) (fun c4 => ?_)
        · have d4 := Int32.not_lt.mpr c4
          refine lv_iload hx hb dX11_highest_102 (lv_at hl 0 rfl) ?_
          refine lv_iconst (v := 1) hx hb dX11_highest_104 (by decide) ?_
          refine lv_isub hx hb dX11_highest_105 ?_
          exact mw_iret S hr hlk hS3 ⟨by show cq ≤ 15; omega, by show sq ≤ 1654; omega⟩ dX11_highest_106 ⟨0, (by simp [tw1, p1]), fun _ => ⟨lo, by omega, rfl, h4, by have e8 : lo = hi := (by have h9 : hi - lo < 1 := h1; omega); rw [e8]; exact h5⟩, fun h => absurd rfl h, hM3⟩
        · have d4 := Int32.not_le.mp c4
          exfalso
          have h9 : hi - lo < 1 := h1
          exact absurd ((nI_ltI (by omega) (by omega)).mp d4) (by omega)
      | succ n ih =>
        intro lo hi cq sq h1 h2 h3 h4 h5 hc9 hs9 H3 locs3 hS3 hM3 hG3 ho3 hr3 ls hl
        refine lv_iload hx hb dX11_highest_35 (lv_at hl 0 rfl) ?_
        refine lv_iload hx hb dX11_highest_37 (lv_at hl 1 rfl) ?_
        refine lv_icmp_ge (tgt := 102) hx hb dX11_highest_39 (by decide) (fun c5 => ?_) (fun c5 => ?_)
        · have d5 := Int32.not_lt.mpr c5
          refine lv_iload hx hb dX11_highest_102 (lv_at hl 0 rfl) ?_
          refine lv_iconst (v := 1) hx hb dX11_highest_104 (by decide) ?_
          refine lv_isub hx hb dX11_highest_105 ?_
          exact mw_iret S hr hlk hS3 ⟨by show cq ≤ 15; omega, by show sq ≤ 1654; omega⟩ dX11_highest_106 ⟨0, (by simp [tw1, p1]), fun _ => ⟨lo, by omega, rfl, h4, by have e8 : lo = hi := hlo_ (by omega) h2 d5; rw [e8]; exact h5⟩, fun h => absurd rfl h, hM3⟩
        · have d5 := Int32.not_le.mp c5
          have hlt9 : lo < hi := (nI_ltI (by omega) (by omega)).mp d5
          have hp2 : 2 ^ (n + 1) = 2 * 2 ^ n := by rw [Nat.pow_succ, Nat.mul_comm]
          rw [hp2] at h1
          have hmid : (lo + hi) / 2 < hi ∧ lo ≤ (lo + hi) / 2 := ⟨by omega, by omega⟩
          refine lv_iload hx hb dX11_highest_42 (lv_at hl 0 rfl) ?_
          refine lv_iload hx hb dX11_highest_44 (lv_at hl 1 rfl) ?_
          refine lv_iadd hx hb dX11_highest_46 ?_
          refine lv_iconst (v := 2) hx hb dX11_highest_47 (by decide) ?_
          refine lv_idiv hx hb dX11_highest_48 (by decide) ?_
          refine W.eq (g2 := F0 mZ 49 ls [.int (nI ((lo + hi) / 2))]) (congrArg (fun z => F0 mZ 49 ls [Value.int z]) (show (nI lo + nI hi) / nI 2 = _ by rw [nI_add, pk_div (by omega) (by decide) (by decide)])) ?_
          refine lv_istore (lv' := [(8, .int (nI ((lo + hi) / 2))), (6, .int (nI lo)), (7, .int (nI hi)), (5, .ref H1.size), (0, .ref (B 0)), (1, .int x), (2, .int y), (3, .int a), (4, .int b)]) hx hb dX11_highest_49 hl (by decide) rfl (fun ls hl => ?_)
          refine lv_aload_n hx hb dX11_highest_51 rfl (lv_at hl 4 rfl) ?_
          refine mw_new (fs := [.int 0, .int 0, .int 0, .int 0, .int 0]) (ci := 10) S hG3 iX9 tyX9 tyX9_ok w0 w1 w2 rfl (fun j hj => match j, hj with | 0, _ => rfl | 1, _ => rfl | 2, _ => rfl | 3, _ => rfl | 4, _ => rfl | _ + 5, h => absurd h (by omega)) ⟨by show cq + 1 ≤ 15; omega, by show sq + 5 ≤ 1654; omega⟩ dX11_highest_52 (fun H6 ha6 hz6 hx6 => ?_)
          have hM6 := mp_ext hM3 hx6
          have hG6 := gk_ext hx6 hG3
          have hS6 := vs_new hS3 hx6
          have hne6 : ∀ k, mD cp g k → B k ≠ H3.size := fun k hk => Nat.ne_of_lt (mp_lt hM3 hk)
          have hda6 := hD.1 _ hS3.1
          have ho6 := va_at.kept ho3 (hx6.2 _ (va_at.lt ho3))
          have hr6 : ∀ i, i < g 3 → va_at G.1 vwCl (H1.size + 1 + i, .inl (G.2.1 0, 400, .inl (mSa f g a b i))) H6 := fun i hi9 => va_at.kept (hr3 i hi9) (hx6.2 _ (va_at.lt (hr3 i hi9)))
          refine lv_dup hx hb dX11_highest_55 rfl ?_
          refine lv_iload_n hx hb dX11_highest_56 rfl (lv_at hl 5 rfl) ?_
          refine lv_iload_n hx hb dX11_highest_57 rfl (lv_at hl 6 rfl) ?_
          refine lv_iload hx hb dX11_highest_58 (lv_at hl 0 rfl) ?_
          refine lv_iload_n hx hb dX11_highest_60 rfl (lv_at hl 7 rfl) ?_
          refine lv_iload hx hb dX11_highest_61 (lv_at hl 8 rfl) ?_
          refine mw_I (As := [.int x, .int y, .int (nI ((lo + hi) / 2)), .int a, .int b]) (rest := [.ref H3.size, .ref (B 0)]) S hD hGX hG6 hS6 (c_X9_init l G H6 H3.size x y (nI ((lo + hi) / 2)) a b ha6 (hD.2 _ hda6) (Nat.le_trans (hD.2 _ (hD.1 _ (Nat.le_refl _))) hS6.1)) (fun q h => h.elim (fun e => by rw [e]; exact hda6) (fun h => hD.1 q (Nat.le_trans hS6.1 h))) gX11_highest_X9_init rfl ⟨rfl, rfl⟩ w2 w3 w4 rfl nmX9_init ⟨Nat.le_of_ble_eq_true rfl, Nat.le_of_ble_eq_true rfl⟩ rfl hl.1 rfl (Nat.le_of_ble_eq_true rfl) ⟨by show cq + 1 + 0 ≤ 15; omega, by show sq + 5 + 0 ≤ 1654; omega⟩ dX11_highest_63 (fun H7 locs7 v7 hS7 hs7 hP7 hG7 => ?_)
          obtain ⟨hv7, ha7, hz7, hq7⟩ := hP7
          subst hv7
          have hM7 := mp_kept hM6 (fun k hk => hq7 _ (hne6 k hk))
          have ho7 := va_at.kept ho6 (hq7 _ (Nat.ne_of_lt (va_at.lt ho3)))
          have hr7 : ∀ i, i < g 3 → va_at G.1 vwCl (H1.size + 1 + i, .inl (G.2.1 0, 400, .inl (mSa f g a b i))) H7 := fun i hi9 => va_at.kept (hr6 i hi9) (hq7 _ (Nat.ne_of_lt (va_at.lt (hr3 i hi9))))
          refine W.eq (g2 := F0 mZ 66 ls [.ref H3.size, .ref (B 0)]) rfl ?_
          refine lv_aload hx hb dX11_highest_66 (lv_at hl 3 rfl) ?_
          refine rd_V (As := [.ref H3.size, .ref H1.size]) (rest := []) (v := some (.int (mHa f g x y (nI ((lo + hi) / 2)) a b (mSa f g a b)))) S hG7 (c_X11_harmed l G B 0 mc cp f g H7 hM7 H3.size x y (nI ((lo + hi) / 2)) a b ha7 H1.size (fun i => H1.size + 1 + i) (mSa f g a b) ho7 hr7) gX11_highest_X11_harmed rfl ⟨rfl, rfl⟩ nmX11_harmed ⟨Nat.le_of_ble_eq_true rfl, Nat.le_of_ble_eq_true rfl⟩ (rd_rcv hG7.1 (mP_0 hM7) rfl) rfl hl.1 rfl (Nat.le_of_ble_eq_true rfl) ⟨by show cq + 1 ≤ 15; omega, by show sq + 5 ≤ 1654; omega⟩ dX11_highest_68 ?_
          refine W.eq (g2 := F0 mZ 71 ls [.int (mHa f g x y (nI ((lo + hi) / 2)) a b (mSa f g a b))]) rfl ?_
          refine lv_if_ne (tgt := 83) hx hb dX11_highest_71 (by decide) (fun c8 => ?_) (fun c8 => ?_)
          · refine lv_iload hx hb dX11_highest_83 (lv_at hl 0 rfl) ?_
            refine lv_istore (lv' := [(7, .int (nI ((lo + hi) / 2))), (8, .int (nI ((lo + hi) / 2))), (6, .int (nI lo)), (5, .ref H1.size), (0, .ref (B 0)), (1, .int x), (2, .int y), (3, .int a), (4, .int b)]) hx hb dX11_highest_85 hl (by decide) rfl (fun ls hl => ?_)
            refine lv_iload hx hb dX11_highest_87 (lv_at hl 2 rfl) ?_
            refine lv_sipush (v := 999) hx hb dX11_highest_89 (by decide) ?_
            refine lv_icmp_le (tgt := 99) hx hb dX11_highest_92 (by decide) (fun c9 => ?_) (fun c9 => ?_)
            · have d9 := Int32.not_lt.mpr c9
              refine lv_goto (tgt := 35) hx hb dX11_highest_99 (by decide) ?_
              exact ih lo ((lo + hi) / 2) _ _ (by omega) (by omega) (by omega) h4 (Or.inr c8) (by show cq + 1 + n ≤ 15; omega) (by show sq + 5 + 5 * n ≤ 1654; omega) _ _ hS7 hM7 hG7 ho7 hr7 ls (lv_sub hl [2, 0, 3, 4, 5, 6, 7, 8] rfl)
            · have d9 := Int32.not_le.mp c9
              refine lv_sipush (v := 999) hx hb dX11_highest_95 (by decide) ?_
              exact mw_iret S hr hlk hS7 ⟨by show cq + 1 ≤ 15; omega, by show sq + 5 ≤ 1654; omega⟩ dX11_highest_98 (False.elim (c9 (nI_le (a := lo) (b := 999) (by omega) (by decide))))
          · refine lv_iload hx hb dX11_highest_74 (lv_at hl 0 rfl) ?_
            refine lv_iconst (v := 1) hx hb dX11_highest_76 (by decide) ?_
            refine lv_iadd hx hb dX11_highest_77 ?_
            refine W.eq (g2 := F0 mZ 78 ls [.int (nI (((lo + hi) / 2) + 1))]) (by rw [nI_1]) ?_
            refine lv_istore (lv' := [(6, .int (nI (((lo + hi) / 2) + 1))), (8, .int (nI ((lo + hi) / 2))), (7, .int (nI hi)), (5, .ref H1.size), (0, .ref (B 0)), (1, .int x), (2, .int y), (3, .int a), (4, .int b)]) hx hb dX11_highest_78 hl (by decide) rfl (fun ls hl => ?_)
            refine lv_goto (tgt := 87) hx hb dX11_highest_80 (by decide) ?_
            refine lv_iload hx hb dX11_highest_87 (lv_at hl 0 rfl) ?_
            refine lv_sipush (v := 999) hx hb dX11_highest_89 (by decide) ?_
            refine lv_icmp_le (tgt := 99) hx hb dX11_highest_92 (by decide) (fun c10 => ?_) (fun c10 => ?_)
            · have d10 := Int32.not_lt.mpr c10
              refine lv_goto (tgt := 35) hx hb dX11_highest_99 (by decide) ?_
              exact ih ((lo + hi) / 2 + 1) hi _ _ (by omega) (by omega) (by omega) (Or.inr (by rw [Nat.add_sub_cancel]; exact c8)) h5 (by show cq + 1 + n ≤ 15; omega) (by show sq + 5 + 5 * n ≤ 1654; omega) _ _ hS7 hM7 hG7 ho7 hr7 ls (lv_sub hl [0, 2, 3, 4, 5, 6, 7, 8] rfl)
            · have d10 := Int32.not_le.mp c10
              refine lv_sipush (v := 999) hx hb dX11_highest_95 (by decide) ?_
              exact mw_iret S hr hlk hS7 ⟨by show cq + 1 ≤ 15; omega, by show sq + 5 ≤ 1654; omega⟩ dX11_highest_98 ⟨0, (by simp [tw1, p1]), fun _ => ⟨1000, by decide, congrArg (fun z => some (Value.int z)) (by decide), Or.inr (by have e8 : (lo + hi) / 2 = 1000 - 1 := hi9_ hmid.1 h3 c10; rw [← e8]; exact c8), Or.inl rfl⟩, fun h => absurd rfl h, hM7⟩
    exact loop35 10 0 1000 _ _ (by decide) (by decide) (by decide) (Or.inl rfl) (Or.inl rfl) (by show 5 + 10 ≤ 15; omega) (by show 1604 + 5 * 10 ≤ 1654; omega) _ _ hS2 hM2 hG2 ho2 hr2 ls (lv_sub hl [1, 0, 2, 3, 4, 5, 6, 7] rfl)

