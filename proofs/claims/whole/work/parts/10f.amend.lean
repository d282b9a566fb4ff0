/-! amendments, in the reference -/
def mAH (f : Nat → Nat → Int32) (g : Nat → Nat) (i : Nat) : Int32 := fl (min 28 (400 - frN g)) (fun j h => imax h (mLH f g i (nI (frN g + j)) (-1))) 0
theorem arrV_congr {c : ClassId} {n : Nat} {r r2 : Nat → Value} (h : ∀ j, j < n → r j = r2 j) : arrV c n r = arrV c n r2 := by
  have e : (fun j : Fin n => r j.val) = fun j : Fin n => r2 j.val := funext fun j => h j.val j.isLt
  unfold arrV
  rw [e]
/-- an array of ints by its first n numbers alone -/
theorem va_cg {D : va_G} {cl : List vw_C} {H : Heap} {a n : Nat} {c : ClassId} {r r2 : Nat → Int32} (h : va_at D cl (a, .inl (c, n, .inl r)) H) (hr : ∀ j, j < n → r j = r2 j) : va_at D cl (a, .inl (c, n, .inl r2)) H := by
  have h1 : H[a]? = some (vp_cell c (n, .inl r)) := h
  show H[a]? = some (vp_cell c (n, .inl r2))
  rw [h1, vp_cell_i, vp_cell_i, arrV_congr fun j hj => congrArg Value.int (hr j hj)]
theorem mp_A0 {G : GT} {D : Nat → Prop} {B : Nat → Nat} {th : Int32} {mc : Nat → Int32} {cp : Nat → Nat} {f : Nat → Nat → Int32} {g : Nat → Nat} {H t : Heap} {o i : Nat} {v : Option Value} (hM : MP G B th mc cp f g H) (hB : DB D B cp g) (hDs : ∀ q, D q → G.2.2.1 ≤ q) (hs0 : G.2.2.2 0 < G.2.2.1) (hi : i < g 3) (hP : adQ G H (B (50 + i)) (eA G B cp (50 + i) (60 + i)) (amL f i (g 4)).length o (mc (50 + i)) (amE B (amL f i (g 4))) v t) : va_at G.1 vwCl (B 0, .inr (12, [.int th, .int (nI (g 0)), .int (nI (g 7)), .int (nI (g 4)), .ref (B 5), .ref (B 1), .ref (B 2), .ref (B 6), .ref (B 7), .ref (B 3), .ref (B 4)])) t := by
  obtain ⟨hv, a', c', ⟨hc1, hc2⟩, ha, h1, h2, hz, hq⟩ := hP
  have hg3 := hM.1.1.2.2.2.1
  have hq0 : mD cp g 0 := Or.inl (by decide)
  have hq5 : mD cp g (50 + i) := Or.inr (Or.inr (Or.inr (Or.inr (Or.inr (Or.inr (Or.inl ⟨by omega, by omega, by omega⟩))))))
  refine (mP_0 hM).kept (hq (B 0) (mp_lt hM hq0) (fun e => absurd (hB.2 _ _ hq0 hq5 e) (by omega)) fun e => ?_)
  unfold eA at e
  by_cases e2 : cp (50 + i) = 0
  · rw [if_pos e2] at e
    have := hDs _ (hB.1 _ hq0)
    omega
  · rw [if_neg e2] at e
    exact absurd (hB.2 0 (60 + i) hq0 (Or.inr (Or.inr (Or.inr (Or.inr (Or.inr (Or.inr (Or.inr (Or.inl ⟨by omega, by omega, by omega, by rw [show 60 + i - 10 = 50 + i by omega]; exact e2⟩)))))))) e) (by omega)
theorem nmX11_amend : nmV yX11_amend RX11 1 := by decide +kernel

set_option maxHeartbeats 1000000 in
set_option maxRecDepth 100000 in
theorem c_X11_amend (l : Launch) (G : GT) (B : Nat → Nat) (th : Int32) (mc : Nat → Int32) (cp : Nat → Nat) (f : Nat → Nat → Int32) (g : Nat → Nat) (H : Heap) (hM : MP G B th mc cp f g H) (D : Nat → Prop) (hD : DP G D H.size) (hB : DB D B cp g) (hcp : CG cp) (i : Int32) : MwV l G D H yX11_amend wsX11_amend { frames := 8, cells := 2, slots := 42, locals := 211 } [.ref (B 0), .int i] 2 42 (fun v u => ∃ mt : Int32, mt = tw2 (mNx i (g 3) = true) (nI (g 4) = 20 ∨ 399 < nI (frN g)) ∧ v = some (.int (if mt = 0 then mAH f g (cnt i) else 0)) ∧ MX G D (B 0) mt (if mt = 0 then amAdd f g i (nI (frN g)) (mAH f g (cnt i)) else f) (if mt = 0 then gset g 4 (g 4 + 1) else g) u) := by
  refine mw_of (cc := cX11_amend) (maxL := 5) (ret := (some .int)) (by decide) rfl (Nat.le_of_ble_eq_true rfl) ?_
  intro pZ eZ sZ mZ bZ meZ cZ ls S hr hlk hl hHs hG hGX
  have S : CallFix pZ mZ cZ cX11_amend 5 sZ _ wsX11_amend RX11 := S
  have hx := S.1
  have hb := S.2.1
  have hown := S.2.2.2.1
  have hts := S.2.2.2.2
  have hl : lv_has ls 5 [(0, .ref (B 0)), (1, .int i)] := hl
  have w0 := hts (.fieldLink RX11 156 "MinimaRoomModel" "now" "I") (by decide +kernel)
  have w1 := hts (.fieldLink RX11 178 "MinimaRoomModel" "amendments" "I") (by decide +kernel)
  have w2 := hts (.fieldLink RX11 23 "MinimaRoomModel" "procedures" "Ljava/util/ArrayList;") (by decide +kernel)
  have w3 := hts (.classLink RX11 59 "MinimaRoomModel$Procedure") (by decide +kernel)
  have w4 := hts (.fieldLink RX11 181 "MinimaRoomModel$Procedure" "amendments" "Ljava/util/ArrayList;") (by decide +kernel)
  have w5 := hts (.arrayClass .int) (by decide +kernel)
  have iX11 : ∀ w ∈ u_ws RX11 TX11 11, w ∈ wsX11_amend := by decide +kernel
  have iX10 : ∀ w ∈ u_ws RX10 TX10 3, w ∈ wsX11_amend := by decide +kernel
  have m_max_86 : [.methodLink RX11 86 Lib.Math.max.name, .static Lib.Math.max.name, .initialized "java/lang/Math", .code Lib.Math.max.name Lib.Math.max.code 2 (some .int)] ⊆ wsX11_amend := by decide +kernel
  have hS : va_S D H H [] := va_S.rf
  have hI := hM.1
  have hgb := hI.1.1
  have hg0 := hI.1.2.1
  have hg1 := hI.1.2.2.1
  have hg3 := hI.1.2.2.2.1
  have hg4 := hI.1.2.2.2.2.1
  have hg5 := hI.1.2.2.2.2.2
  refine lv_aload_n hx hb dX11_amend_0 rfl (lv_at hl 0 rfl) ?_
  refine rd_get (own := RX11) (x := .int (nI (g 0))) S hG.1 iX11 (mP_0 hM) 1 rfl (by decide) w0 rfl dX11_amend_1 ?_
  refine lv_bipush (v := 14) hx hb dX11_amend_4 (by decide) ?_
  refine lv_iadd hx hb dX11_amend_6 ?_
  refine lv_bipush (v := 28) hx hb dX11_amend_7 (by decide) ?_
  refine lv_iadd hx hb dX11_amend_9 ?_
  refine lv_iconst (v := 1) hx hb dX11_amend_10 (by decide) ?_
  refine lv_isub hx hb dX11_amend_11 ?_
  refine lv_bipush (v := 28) hx hb dX11_amend_12 (by decide) ?_
  refine lv_idiv hx hb dX11_amend_14 (by decide) ?_
  refine lv_bipush (v := 28) hx hb dX11_amend_15 (by decide) ?_
  refine lv_imul hx hb dX11_amend_17 ?_
  refine W.eq (g2 := F0 mZ 18 ls [.int (nI (frN g))]) (congrArg (fun z => F0 mZ 18 ls [Value.int z]) (fr_eq hg0)) ?_
  refine lv_istore_n (lv' := [(2, .int (nI (frN g))), (0, .ref (B 0)), (1, .int i)]) hx hb dX11_amend_18 rfl hl (by decide) rfl (fun ls hl => ?_)
  refine lv_aload_n hx hb dX11_amend_19 rfl (lv_at hl 1 rfl) ?_
  refine lv_aload_n hx hb dX11_amend_20 rfl (lv_at hl 1 rfl) ?_
  refine lv_iload_n hx hb dX11_amend_21 rfl (lv_at hl 2 rfl) ?_
  refine rd_V (As := [.int i]) (rest := [.ref (B 0)]) (v := some (.int (b2i (mNx i (g 3) = true)))) S hG (c_X11_isNoProcedure l G B th mc cp f g H hM i) gX11_amend_X11_isNoProcedure rfl ⟨rfl, rfl⟩ nmX11_isNoProcedure ⟨Nat.le_of_ble_eq_true rfl, Nat.le_of_ble_eq_true rfl⟩ (rd_rcv hG.1 (mP_0 hM) rfl) rfl hl.1 rfl (Nat.le_of_ble_eq_true rfl) ⟨by show 0 ≤ 2; omega, by show 0 ≤ 42; omega⟩ dX11_amend_22 ?_
  refine W.eq (g2 := F0 mZ 25 ls [.int (b2i (mNx i (g 3) = true)), .ref (B 0)]) rfl ?_
  refine lv_iconst (v := 1) hx hb dX11_amend_25 (by decide) ?_
  refine mw_V (As := [.int (b2i (mNx i (g 3) = true)), .int 1]) (rest := []) S hD hGX hG hS (c_X11_start l G B th mc cp f g H hM D (dp_le hD hS.1) hB (mNx i (g 3) = true) inferInstance 1 (by decide)) (fun _ h => h) gX11_amend_X11_start rfl ⟨rfl, rfl⟩ nmX11_start ⟨Nat.le_of_ble_eq_true rfl, Nat.le_of_ble_eq_true rfl⟩ (rd_rcv hG.1 (mP_0 hM) rfl) rfl hl.1 rfl (Nat.le_of_ble_eq_true rfl) ⟨by show 0 + 0 ≤ 2; omega, by show 0 + 0 ≤ 42; omega⟩ dX11_amend_26 (fun H1 locs1 v1 hS1 hs1 hP1 hG1 => ?_)
  by_cases p1 : mNx i (g 3) = true
  · obtain ⟨hv1, hM1⟩ := hP1.1 p1
    subst hv1
    refine W.eq (g2 := F0 mZ 29 ls [.int 1]) rfl ?_
    refine lv_if_ne (tgt := 61) hx hb dX11_amend_29 (by decide) (fun _ => ?_) (fun c => absurd c (by decide))
    refine lv_iconst (v := 0) hx hb dX11_amend_61 (by decide) ?_
    exact mw_iret S hr hlk hS1 ⟨by show 0 ≤ 2; omega, by show 0 ≤ 42; omega⟩ dX11_amend_62 ⟨1, (by simp [tw2, p1]), congrArg (fun z => some (Value.int z)) (by exact (if_neg (by decide)).symm), (by rw [if_neg (by decide), if_neg (by decide)]; exact ⟨B, mc, cp, hM1, hB, hcp, rfl⟩)⟩
  · obtain ⟨hv1, hM1⟩ := hP1.2 p1
    subst hv1
    refine W.eq (g2 := F0 mZ 29 ls [.int 0]) rfl ?_
    refine lv_if_ne (tgt := 61) hx hb dX11_amend_29 (by decide) (fun c => absurd (by decide) c) (fun _ => ?_)
    refine lv_aload_n hx hb dX11_amend_32 rfl (lv_at hl 1 rfl) ?_
    refine lv_aload_n hx hb dX11_amend_33 rfl (lv_at hl 1 rfl) ?_
    refine rd_get (own := RX11) (x := .int (nI (g 4))) S hG1.1 iX11 (mP_0 hM1) 3 rfl (by decide) w1 rfl dX11_amend_34 ?_
    refine lv_bipush (v := 20) hx hb dX11_amend_37 (by decide) ?_
    refine lv_icmp_eq (tgt := 49) hx hb dX11_amend_39 (by decide) (fun c2 => ?_) (fun c2 => ?_)
    · refine lv_iconst (v := 1) hx hb dX11_amend_49 (by decide) ?_
      refine lv_goto (tgt := 54) hx hb dX11_amend_50 (by decide) ?_
      refine lv_iconst (v := 2) hx hb dX11_amend_54 (by decide) ?_
      refine mw_V (As := [.int 1, .int 2]) (rest := []) S hD hGX hG1 hS1 (c_X11_refuse l G B 0 mc cp f g H1 hM1 rfl D (dp_le hD hS1.1) hB (True) inferInstance 2 (by decide)) (fun _ h => h) gX11_amend_X11_refuse rfl ⟨rfl, rfl⟩ nmX11_refuse ⟨Nat.le_of_ble_eq_true rfl, Nat.le_of_ble_eq_true rfl⟩ (rd_rcv hG1.1 (mP_0 hM1) rfl) rfl hl.1 rfl (Nat.le_of_ble_eq_true rfl) ⟨by show 0 + 0 ≤ 2; omega, by show 0 + 0 ≤ 42; omega⟩ dX11_amend_55 (fun H3 locs3 v3 hS3 hs3 hP3 hG3 => ?_)
      obtain ⟨hv3, hM3⟩ := hP3.1 trivial
      subst hv3
      refine W.eq (g2 := F0 mZ 58 ls [.int 1]) rfl ?_
      refine lv_if_eq (tgt := 63) hx hb dX11_amend_58 (by decide) (fun c => absurd c (by decide)) (fun _ => ?_)
      refine lv_iconst (v := 0) hx hb dX11_amend_61 (by decide) ?_
      exact mw_iret S hr hlk hS3 ⟨by show 0 ≤ 2; omega, by show 0 ≤ 42; omega⟩ dX11_amend_62 ⟨2, (by simp [tw2, p1, c2]), congrArg (fun z => some (Value.int z)) (by exact (if_neg (by decide)).symm), (by rw [if_neg (by decide), if_neg (by decide)]; exact ⟨B, mc, cp, hM3, hB, hcp, rfl⟩)⟩
    · refine lv_iload_n hx hb dX11_amend_42 rfl (lv_at hl 0 rfl) ?_
      refine lv_sipush (v := 399) hx hb dX11_amend_43 (by decide) ?_
      refine lv_icmp_le (tgt := 53) hx hb dX11_amend_46 (by decide) (fun c4 => ?_) (fun c4 => ?_)
      · have d4 := Int32.not_lt.mpr c4
        refine lv_iconst (v := 0) hx hb dX11_amend_53 (by decide) ?_
        refine lv_iconst (v := 2) hx hb dX11_amend_54 (by decide) ?_
        refine mw_V (As := [.int 0, .int 2]) (rest := []) S hD hGX hG1 hS1 (c_X11_refuse l G B 0 mc cp f g H1 hM1 rfl D (dp_le hD hS1.1) hB (False) inferInstance 2 (by decide)) (fun _ h => h) gX11_amend_X11_refuse rfl ⟨rfl, rfl⟩ nmX11_refuse ⟨Nat.le_of_ble_eq_true rfl, Nat.le_of_ble_eq_true rfl⟩ (rd_rcv hG1.1 (mP_0 hM1) rfl) rfl hl.1 rfl (Nat.le_of_ble_eq_true rfl) ⟨by show 0 + 0 ≤ 2; omega, by show 0 + 0 ≤ 42; omega⟩ dX11_amend_55 (fun H5 locs5 v5 hS5 hs5 hP5 hG5 => ?_)
        obtain ⟨hv5, hM5⟩ := hP5.2 not_false
        subst hv5
        refine W.eq (g2 := F0 mZ 58 ls [.int 0]) rfl ?_
        refine lv_if_eq (tgt := 63) hx hb dX11_amend_58 (by decide) (fun _ => ?_) (fun c => absurd (by decide) c)
        obtain ⟨ki, hki, rfl⟩ := mNx_c p1 (by omega)
        have hci : cnt (nI ki) = ki := cnt_nI (by omega)
        have hfr := frN_le hg0
        have hf9 : frN g ≤ 399 := cle (n := 399) c4 (by omega) (by decide)
        have hlt4 : g 4 < 20 := ne_lt hg4 (by decide) c2
        refine lv_iconst (v := 0) hx hb dX11_amend_63 (by decide) ?_
        refine lv_istore_n (lv' := [(3, .int 0), (2, .int (nI (frN g))), (0, .ref (B 0)), (1, .int (nI ki))]) hx hb dX11_amend_64 rfl hl (by decide) rfl (fun ls hl => ?_)
        refine lv_iload_n hx hb dX11_amend_65 rfl (lv_at hl 1 rfl) ?_
        refine lv_istore (lv' := [(4, .int (nI (frN g))), (3, .int 0), (2, .int (nI (frN g))), (0, .ref (B 0)), (1, .int (nI ki))]) hx hb dX11_amend_66 hl (by decide) rfl (fun ls hl => ?_)
        have loop68 : ∀ (n68 k68 : Nat), k68 + n68 = min 28 (400 - frN g) → ∀ (z68_3 : Int32), z68_3 = fl k68 (fun j h => imax h (mLH f g ki (nI (frN g + j)) (-1))) 0 → ∀ (ls : Array Slot), lv_has ls 5 [(4, .int (nI (frN g + k68))), (3, .int z68_3), (0, .ref (B 0)), (1, .int (nI ki)), (2, .int (nI (frN g)))] → W pZ l eZ ({ frames := 8, cells := 2, slots := 42, locals := 211 } : Room) sZ mZ ([.ref (B 0), .int (nI ki)] : List Value).toArray bZ meZ cZ H5 locs5 0 0 (mw_Q bZ D H [.ref (B 0), .int (nI ki)] sZ 2 42 (fun v u => ∃ mt : Int32, mt = tw2 (mNx (nI ki) (g 3) = true) (nI (g 4) = 20 ∨ 399 < nI (frN g)) ∧ v = some (.int (if mt = 0 then mAH f g (cnt (nI ki)) else 0)) ∧ MX G D (B 0) mt (if mt = 0 then amAdd f g (nI ki) (nI (frN g)) (mAH f g (cnt (nI ki))) else f) (if mt = 0 then gset g 4 (g 4 + 1) else g) u)) (F0 mZ 68 ls []) := by
          intro n68
          induction n68 with
          | zero =>
            intro k68 hk68 z68_3 ez68_3 ls hl
            obtain rfl : k68 = min 28 (400 - frN g) := by omega
            refine lv_iload hx hb dX11_amend_68 (lv_at hl 0 rfl) ?_
            refine lv_iload_n hx hb dX11_amend_70 rfl (lv_at hl 4 rfl) ?_
            refine lv_bipush (v := 28) hx hb dX11_amend_71 (by decide) ?_
            refine lv_iadd hx hb dX11_amend_73 ?_
            refine W.eq (g2 := F0 mZ 74 ls [.int (nI (frN g + 28)), .int (nI (frN g + (min 28 (400 - frN g))))]) (congrArg (fun z => F0 mZ 74 ls [Value.int z, .int (nI (frN g + (min 28 (400 - frN g))))]) (nI_add (frN g) 28)) ?_
            refine lv_icmp_ge (tgt := 103) hx hb dX11_amend_74 (by decide) (fun c6 => ?_) (fun c6 => ?_)
            · have d6 := Int32.not_lt.mpr c6
              refine lv_aload_n hx hb dX11_amend_103 rfl (lv_at hl 2 rfl) ?_
              refine rd_get (own := RX11) (x := .ref (B 6)) S hG5.1 iX11 (mP_0 hM5) 7 rfl (by decide) w2 rfl dX11_amend_104 ?_
              refine lv_iload_n hx hb dX11_amend_107 rfl (lv_at hl 3 rfl) ?_
              refine rd_V (As := [.int (nI ki)]) (rest := []) (v := some (.ref (B (40 + ki)))) S hG5 (c_Jx4a65c_get_915e3 l G H5 (B 6) (eA G B cp 6 9) (mc 6) (g 3) (cp 6) (lsE B 40 (g 3)) (mP_6 hM5) (mP_e6 hM5 (by omega)) hM5.1.2.1.2.1 (hM5.1.2.1.2.2.2.2 _) ki (B (40 + ki)) (by omega) (lsE_at (by omega))) gX11_amend_Jx4a65c_get_915e3 rfl ⟨rfl, rfl⟩ nmJx4a65c_get_915e3 ⟨Nat.le_of_ble_eq_true rfl, Nat.le_of_ble_eq_true rfl⟩ (rd_rcv hG5.1 (mP_6 hM5) rfl) rfl hl.1 rfl (Nat.le_of_ble_eq_true rfl) ⟨by show 0 ≤ 2; omega, by show 0 ≤ 42; omega⟩ dX11_amend_108 ?_
              refine W.eq (g2 := F0 mZ 111 ls [.ref (B (40 + ki))]) rfl ?_
              refine rd_castS S hG5.1 (mP_pr hM5 (i := ki) (by omega)) rfl rfl w3 dX11_amend_111 ?_
              refine rd_get (own := RX11) (x := .ref (B (50 + ki))) S hG5.1 iX10 (mP_pr hM5 (i := ki) (by omega)) 2 rfl (by decide) w4 rfl dX11_amend_114 ?_
              refine lv_iconst (v := 2) hx hb dX11_amend_117 (by decide) ?_
              refine mw_newa (N := 2) S hG5 w5 (by decide) rfl (Nat.le_of_ble_eq_true rfl) ⟨by show 0 + 1 ≤ 2; omega, by show 0 + 2 ≤ 42; omega⟩ dX11_amend_118 (fun H7 ha7 hz7 hx7 => ?_)
              have hM7 := mp_ext hM5 hx7
              have hG7 := gk_ext hx7 hG5
              have hS7 := vs_new hS5 hx7
              have hne7 : ∀ k, mD cp g k → B k ≠ H5.size := fun k hk => Nat.ne_of_lt (mp_lt hM5 hk)
              have hda7 := hD.1 _ hS5.1
              refine lv_dup hx hb dX11_amend_120 rfl ?_
              refine lv_iconst (v := 0) hx hb dX11_amend_121 (by decide) ?_
              refine lv_iload_n hx hb dX11_amend_122 rfl (lv_at hl 4 rfl) ?_
              refine mw_iast S hD hG7 hS7 hda7 ha7 (vp_in_nI (n := 0) (by decide) (by decide)) dX11_amend_123 (fun H8 locs8 ha8 hz8 hq8 hS8 hG8 => ?_)
              have hM8 := mp_kept hM7 (fun k hk => hq8 _ (hne7 k hk))
              refine lv_dup hx hb dX11_amend_124 rfl ?_
              refine lv_iconst (v := 1) hx hb dX11_amend_125 (by decide) ?_
              refine lv_iload_n hx hb dX11_amend_126 rfl (lv_at hl 1 rfl) ?_
              refine mw_iast S hD hG8 hS8 hda7 ha8 (vp_in_nI (n := 1) (by decide) (by decide)) dX11_amend_127 (fun H9 locs9 ha9 hz9 hq9 hS9 hG9 => ?_)
              have hM9 := mp_kept hM8 (fun k hk => hq9 _ (hne7 k hk))
              have ho90 : va_at G.1 vwCl (H5.size, .inl (G.2.1 0, 2, .inl (fun q => if q = 0 then nI (frN g) else z68_3))) H9 := va_cg ha9 (fun j hj => by rcases (show j = 0 ∨ j = 1 by omega) with rfl | rfl <;> rfl)
              refine mw_V (As := [.ref H5.size]) (rest := []) S hD hGX hG9 hS9 (c_addA l G hM9 D (dp_le hD hS9.1) hB hcp (hG9.2.2.2.1 0 (by decide)) hG9.2.2.2.2.2.1 ki hki H5.size 2 _ ho90 hne7) (fun _ h => h) gX11_amend_Jx4a65c_add_9ea2d rfl ⟨rfl, rfl⟩ nmJx4a65c_add_9ea2d ⟨Nat.le_of_ble_eq_true rfl, Nat.le_of_ble_eq_true rfl⟩ (rd_rcv hG9.1 (mP_pl hM9 (i := ki) hki) rfl) rfl hl.1 rfl (Nat.le_of_ble_eq_true rfl) ⟨by show 1 + 1 ≤ 2; omega, by show 2 + 40 ≤ 42; omega⟩ dX11_amend_128 (fun H90 locs90 v90 hS90 hs90 hP90 hG90 => ?_)
              have hv90 := hP90.1
              subst hv90
              have h090 := mp_A0 hM9 hB hD.2 (hG9.2.2.2.1 0 (by decide)) hki hP90
              refine W.eq (g2 := F0 mZ 131 ls [.int 1]) rfl ?_
              refine lv_pop hx hb dX11_amend_131 rfl ?_
              refine lv_aload_n hx hb dX11_amend_132 rfl (lv_at hl 2 rfl) ?_
              refine lv_dup hx hb dX11_amend_133 rfl ?_
              refine rd_get (own := RX11) (x := .int (nI (g 4))) S hG90.1 iX11 h090 3 rfl (by decide) w1 rfl dX11_amend_134 ?_
              refine lv_iconst (v := 1) hx hb dX11_amend_137 (by decide) ?_
              refine lv_iadd hx hb dX11_amend_138 ?_
              refine W.eq (g2 := F0 mZ 139 ls [.int (nI (g 4 + 1)), .ref (B 0)]) (by rw [nI_1]) ?_
              refine mw_putf (ty := .int) S hD hG90 hS90 (hB.1 _ (Or.inl (by decide) : mD cp g 0)) iX11 tyX11 tyX11_ok nmX11 h090 3 rfl (by decide) w1 rfl (by decide +kernel) rfl rfl (Nat.le_of_ble_eq_true rfl) dX11_amend_139 (fun H91 locs91 hn91 hz91 hq91 hS91 hG91 => ?_)
              obtain ⟨B90, mc90, cp90, hM90, hB90, hcp90, hb90⟩ := mp_addA hM9 hB (fun q hq => hD.1 q (Nat.le_trans hS9.1 hq)) hD.2 (hG9.2.2.2.1 0 (by decide)) hG90.2.2.2.2.2.1 hki ho90 hda7 hne7 hcp hlt4 hP90 hn91 hq91
              refine lv_iload_n hx hb dX11_amend_142 rfl (lv_at hl 1 rfl) ?_
              exact mw_iret S hr hlk hS91 ⟨by show 1 + 1 ≤ 2; omega, by show 2 + 40 ≤ 42; omega⟩ dX11_amend_143 ⟨0, (by unfold tw2; rw [if_neg p1, if_neg (fun h => h.elim c2 (Int32.not_lt.mpr c4))]), congrArg (fun z => some (Value.int z)) (by rw [if_pos rfl, hci]; exact ez68_3), (by rw [if_pos rfl, if_pos rfl, hci]; subst ez68_3; exact ⟨B90, mc90, cp90, hM90, hB90, hcp90, hb90⟩)⟩
            · have d6 := Int32.not_le.mp c6
              refine lv_iload hx hb dX11_amend_77 (lv_at hl 0 rfl) ?_
              refine lv_sipush (v := 399) hx hb dX11_amend_79 (by decide) ?_
              refine lv_icmp_gt (tgt := 103) hx hb dX11_amend_82 (by decide) (fun c10 => ?_) (fun c10 => ?_)
              · have d10 := Int32.not_le.mpr c10
                refine lv_aload_n hx hb dX11_amend_103 rfl (lv_at hl 2 rfl) ?_
                refine rd_get (own := RX11) (x := .ref (B 6)) S hG5.1 iX11 (mP_0 hM5) 7 rfl (by decide) w2 rfl dX11_amend_104 ?_
                refine lv_iload_n hx hb dX11_amend_107 rfl (lv_at hl 3 rfl) ?_
                refine rd_V (As := [.int (nI ki)]) (rest := []) (v := some (.ref (B (40 + ki)))) S hG5 (c_Jx4a65c_get_915e3 l G H5 (B 6) (eA G B cp 6 9) (mc 6) (g 3) (cp 6) (lsE B 40 (g 3)) (mP_6 hM5) (mP_e6 hM5 (by omega)) hM5.1.2.1.2.1 (hM5.1.2.1.2.2.2.2 _) ki (B (40 + ki)) (by omega) (lsE_at (by omega))) gX11_amend_Jx4a65c_get_915e3 rfl ⟨rfl, rfl⟩ nmJx4a65c_get_915e3 ⟨Nat.le_of_ble_eq_true rfl, Nat.le_of_ble_eq_true rfl⟩ (rd_rcv hG5.1 (mP_6 hM5) rfl) rfl hl.1 rfl (Nat.le_of_ble_eq_true rfl) ⟨by show 0 ≤ 2; omega, by show 0 ≤ 42; omega⟩ dX11_amend_108 ?_
                refine W.eq (g2 := F0 mZ 111 ls [.ref (B (40 + ki))]) rfl ?_
                refine rd_castS S hG5.1 (mP_pr hM5 (i := ki) (by omega)) rfl rfl w3 dX11_amend_111 ?_
                refine rd_get (own := RX11) (x := .ref (B (50 + ki))) S hG5.1 iX10 (mP_pr hM5 (i := ki) (by omega)) 2 rfl (by decide) w4 rfl dX11_amend_114 ?_
                refine lv_iconst (v := 2) hx hb dX11_amend_117 (by decide) ?_
                refine mw_newa (N := 2) S hG5 w5 (by decide) rfl (Nat.le_of_ble_eq_true rfl) ⟨by show 0 + 1 ≤ 2; omega, by show 0 + 2 ≤ 42; omega⟩ dX11_amend_118 (fun H11 ha11 hz11 hx11 => ?_)
                have hM11 := mp_ext hM5 hx11
                have hG11 := gk_ext hx11 hG5
                have hS11 := vs_new hS5 hx11
                have hne11 : ∀ k, mD cp g k → B k ≠ H5.size := fun k hk => Nat.ne_of_lt (mp_lt hM5 hk)
                have hda11 := hD.1 _ hS5.1
                refine lv_dup hx hb dX11_amend_120 rfl ?_
                refine lv_iconst (v := 0) hx hb dX11_amend_121 (by decide) ?_
                refine lv_iload_n hx hb dX11_amend_122 rfl (lv_at hl 4 rfl) ?_
                refine mw_iast S hD hG11 hS11 hda11 ha11 (vp_in_nI (n := 0) (by decide) (by decide)) dX11_amend_123 (fun H12 locs12 ha12 hz12 hq12 hS12 hG12 => ?_)
                have hM12 := mp_kept hM11 (fun k hk => hq12 _ (hne11 k hk))
                refine lv_dup hx hb dX11_amend_124 rfl ?_
                refine lv_iconst (v := 1) hx hb dX11_amend_125 (by decide) ?_
                refine lv_iload_n hx hb dX11_amend_126 rfl (lv_at hl 1 rfl) ?_
                refine mw_iast S hD hG12 hS12 hda11 ha12 (vp_in_nI (n := 1) (by decide) (by decide)) dX11_amend_127 (fun H13 locs13 ha13 hz13 hq13 hS13 hG13 => ?_)
                have hM13 := mp_kept hM12 (fun k hk => hq13 _ (hne11 k hk))
                have ho90 : va_at G.1 vwCl (H5.size, .inl (G.2.1 0, 2, .inl (fun q => if q = 0 then nI (frN g) else z68_3))) H13 := va_cg ha13 (fun j hj => by rcases (show j = 0 ∨ j = 1 by omega) with rfl | rfl <;> rfl)
                refine mw_V (As := [.ref H5.size]) (rest := []) S hD hGX hG13 hS13 (c_addA l G hM13 D (dp_le hD hS13.1) hB hcp (hG13.2.2.2.1 0 (by decide)) hG13.2.2.2.2.2.1 ki hki H5.size 2 _ ho90 hne11) (fun _ h => h) gX11_amend_Jx4a65c_add_9ea2d rfl ⟨rfl, rfl⟩ nmJx4a65c_add_9ea2d ⟨Nat.le_of_ble_eq_true rfl, Nat.le_of_ble_eq_true rfl⟩ (rd_rcv hG13.1 (mP_pl hM13 (i := ki) hki) rfl) rfl hl.1 rfl (Nat.le_of_ble_eq_true rfl) ⟨by show 1 + 1 ≤ 2; omega, by show 2 + 40 ≤ 42; omega⟩ dX11_amend_128 (fun H90 locs90 v90 hS90 hs90 hP90 hG90 => ?_)
                have hv90 := hP90.1
                subst hv90
                have h090 := mp_A0 hM13 hB hD.2 (hG13.2.2.2.1 0 (by decide)) hki hP90
                refine W.eq (g2 := F0 mZ 131 ls [.int 1]) rfl ?_
                refine lv_pop hx hb dX11_amend_131 rfl ?_
                refine lv_aload_n hx hb dX11_amend_132 rfl (lv_at hl 2 rfl) ?_
                refine lv_dup hx hb dX11_amend_133 rfl ?_
                refine rd_get (own := RX11) (x := .int (nI (g 4))) S hG90.1 iX11 h090 3 rfl (by decide) w1 rfl dX11_amend_134 ?_
                refine lv_iconst (v := 1) hx hb dX11_amend_137 (by decide) ?_
                refine lv_iadd hx hb dX11_amend_138 ?_
                refine W.eq (g2 := F0 mZ 139 ls [.int (nI (g 4 + 1)), .ref (B 0)]) (by rw [nI_1]) ?_
                refine mw_putf (ty := .int) S hD hG90 hS90 (hB.1 _ (Or.inl (by decide) : mD cp g 0)) iX11 tyX11 tyX11_ok nmX11 h090 3 rfl (by decide) w1 rfl (by decide +kernel) rfl rfl (Nat.le_of_ble_eq_true rfl) dX11_amend_139 (fun H91 locs91 hn91 hz91 hq91 hS91 hG91 => ?_)
                obtain ⟨B90, mc90, cp90, hM90, hB90, hcp90, hb90⟩ := mp_addA hM13 hB (fun q hq => hD.1 q (Nat.le_trans hS13.1 hq)) hD.2 (hG13.2.2.2.1 0 (by decide)) hG90.2.2.2.2.2.1 hki ho90 hda11 hne11 hcp hlt4 hP90 hn91 hq91
                refine lv_iload_n hx hb dX11_amend_142 rfl (lv_at hl 1 rfl) ?_
                exact mw_iret S hr hlk hS91 ⟨by show 1 + 1 ≤ 2; omega, by show 2 + 40 ≤ 42; omega⟩ dX11_amend_143 ⟨0, (by unfold tw2; rw [if_neg p1, if_neg (fun h => h.elim c2 (Int32.not_lt.mpr c4))]), congrArg (fun z => some (Value.int z)) (by rw [if_pos rfl, hci]; exact ez68_3), (by rw [if_pos rfl, if_pos rfl, hci]; subst ez68_3; exact ⟨B90, mc90, cp90, hM90, hB90, hcp90, hb90⟩)⟩
              · exact absurd (nI_lt (a := 399) (by have q := (nI_ltI (by omega) (by omega)).mp d6; omega) (by omega)) c10
          | succ n68 ih68 =>
            intro k68 hk68 z68_3 ez68_3 ls hl
            refine lv_iload hx hb dX11_amend_68 (lv_at hl 0 rfl) ?_
            refine lv_iload_n hx hb dX11_amend_70 rfl (lv_at hl 4 rfl) ?_
            refine lv_bipush (v := 28) hx hb dX11_amend_71 (by decide) ?_
            refine lv_iadd hx hb dX11_amend_73 ?_
            refine W.eq (g2 := F0 mZ 74 ls [.int (nI (frN g + 28)), .int (nI (frN g + k68))]) (congrArg (fun z => F0 mZ 74 ls [Value.int z, .int (nI (frN g + k68))]) (nI_add (frN g) 28)) ?_
            refine lv_icmp_ge (tgt := 103) hx hb dX11_amend_74 (by decide) (fun c14 => ?_) (fun c14 => ?_)
            · exact absurd c14 (nI_ge (by omega) (by omega))
            · have d14 := Int32.not_le.mp c14
              refine lv_iload hx hb dX11_amend_77 (lv_at hl 0 rfl) ?_
              refine lv_sipush (v := 399) hx hb dX11_amend_79 (by decide) ?_
              refine lv_icmp_gt (tgt := 103) hx hb dX11_amend_82 (by decide) (fun c15 => ?_) (fun c15 => ?_)
              · have c15 : nI 399 < nI (frN g + k68) := c15; exact absurd c15 (nI_nlt (by omega) (by omega))
              · have d15 := Int32.not_lt.mp c15
                refine lv_iload_n hx hb dX11_amend_85 rfl (lv_at hl 1 rfl) ?_
                refine lv_aload_n hx hb dX11_amend_86 rfl (lv_at hl 2 rfl) ?_
                refine lv_iload_n hx hb dX11_amend_87 rfl (lv_at hl 3 rfl) ?_
                refine lv_iload hx hb dX11_amend_88 (lv_at hl 0 rfl) ?_
                refine rd_V (As := [.int (nI ki), .int (nI (frN g + k68))]) (rest := [.int z68_3]) (v := some (.int (mLH f g ki (nI (frN g + k68)) (-1)))) S hG5 (c_X11_demandedNow_ l G B 0 mc cp f g H5 hM5 ki (nI (frN g + k68)) (by omega)) gX11_amend_X11_demandedNow_ rfl ⟨rfl, rfl⟩ nmX11_demandedNow_ ⟨Nat.le_of_ble_eq_true rfl, Nat.le_of_ble_eq_true rfl⟩ (rd_rcv hG5.1 (mP_0 hM5) rfl) rfl hl.1 rfl (Nat.le_of_ble_eq_true rfl) ⟨by show 0 ≤ 2; omega, by show 0 ≤ 42; omega⟩ dX11_amend_90 ?_
                refine W.eq (g2 := F0 mZ 93 ls [.int (mLH f g ki (nI (frN g + k68)) (-1)), .int z68_3]) rfl ?_
                refine rd_max S hl.1 m_max_86 ⟨Nat.le_of_ble_eq_true rfl, Nat.le_of_ble_eq_true rfl⟩ (Nat.le_of_ble_eq_true rfl) ⟨by show 0 ≤ 2; omega, by show 0 ≤ 42; omega⟩ dX11_amend_93 ?_
                refine W.eq (g2 := F0 mZ 96 ls [.int (imax z68_3 (mLH f g ki (nI (frN g + k68)) (-1)))]) rfl ?_
                refine lv_topi (fun x16 ex16 => ?_)
                refine lv_istore_n (lv' := [(3, .int x16), (4, .int (nI (frN g + k68))), (0, .ref (B 0)), (1, .int (nI ki)), (2, .int (nI (frN g)))]) hx hb dX11_amend_96 rfl hl (by decide) rfl (fun ls hl => ?_)
                refine lv_iinc (v := nI ((frN g + k68) + 1)) (lv' := [(4, .int (nI ((frN g + k68) + 1))), (3, .int x16), (0, .ref (B 0)), (1, .int (nI ki)), (2, .int (nI (frN g)))]) hx hb dX11_amend_97 hl (k := 1) rfl (nI_inc _) (by decide) rfl (fun ls hl => ?_)
                refine lv_goto (tgt := 68) hx hb dX11_amend_100 (by decide) ?_
                exact ih68 (k68 + 1) (by omega) _ (by subst ex16; subst ez68_3; rfl) ls (lv_sub hl [0, 1, 2, 3, 4] rfl)
        exact loop68 (min 28 (400 - frN g)) 0 (by omega) _ (by first | rfl | first | rfl | (simp only [fl, p1, c2, c4, d4, hci, ne_eq, not_true_eq_false, not_false_eq_true, and_true, true_and, and_false, false_and, or_true, true_or, or_false, false_or, and_self, or_self, decide_eq_true_eq, ↓reduceIte]; done) | (simp only [fl, p1, c2, c4, d4, hci, ne_eq, not_true_eq_false, not_false_eq_true, and_true, true_and, and_false, false_and, or_true, true_or, or_false, false_or, and_self, or_self, decide_eq_true_eq, ↓reduceIte]; rfl) | (simp [fl, p1, c2, c4, d4, hci]; done) | (simp only [fl, p1, c2, c4, d4, hci, ne_eq, not_true_eq_false, not_false_eq_true, and_true, true_and, and_false, false_and, or_true, true_or, or_false, false_or, and_self, or_self, decide_eq_true_eq, ↓reduceIte])) ls (lv_sub hl [0, 1, 3, 4, 2] rfl)
      · have d4 := Int32.not_le.mp c4
        refine lv_iconst (v := 1) hx hb dX11_amend_49 (by decide) ?_
        refine lv_goto (tgt := 54) hx hb dX11_amend_50 (by decide) ?_
        refine lv_iconst (v := 2) hx hb dX11_amend_54 (by decide) ?_
        refine mw_V (As := [.int 1, .int 2]) (rest := []) S hD hGX hG1 hS1 (c_X11_refuse l G B 0 mc cp f g H1 hM1 rfl D (dp_le hD hS1.1) hB (True) inferInstance 2 (by decide)) (fun _ h => h) gX11_amend_X11_refuse rfl ⟨rfl, rfl⟩ nmX11_refuse ⟨Nat.le_of_ble_eq_true rfl, Nat.le_of_ble_eq_true rfl⟩ (rd_rcv hG1.1 (mP_0 hM1) rfl) rfl hl.1 rfl (Nat.le_of_ble_eq_true rfl) ⟨by show 0 + 0 ≤ 2; omega, by show 0 + 0 ≤ 42; omega⟩ dX11_amend_55 (fun H17 locs17 v17 hS17 hs17 hP17 hG17 => ?_)
        obtain ⟨hv17, hM17⟩ := hP17.1 trivial
        subst hv17
        refine W.eq (g2 := F0 mZ 58 ls [.int 1]) rfl ?_
        refine lv_if_eq (tgt := 63) hx hb dX11_amend_58 (by decide) (fun c => absurd c (by decide)) (fun _ => ?_)
        refine lv_iconst (v := 0) hx hb dX11_amend_61 (by decide) ?_
        exact mw_iret S hr hlk hS17 ⟨by show 0 ≤ 2; omega, by show 0 ≤ 42; omega⟩ dX11_amend_62 ⟨2, (by simp [tw2, p1, c2, c4, d4]), congrArg (fun z => some (Value.int z)) (by exact (if_neg (by decide)).symm), (by rw [if_neg (by decide), if_neg (by decide)]; exact ⟨B, mc, cp, hM17, hB, hcp, rfl⟩)⟩

