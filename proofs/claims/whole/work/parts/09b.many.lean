/-! how many there are, in the reference -/
theorem dp_new {G : GT} {n : Nat} (hz : G.2.2.1 ≤ n) : DP G (fun q => n ≤ q) n := ⟨fun _ h => h, fun _ h => Nat.le_trans hz h⟩
theorem vs_new {D : Nat → Prop} {H H1 H2 : Heap} {L : List Loc} (h : va_S D H H1 L) (hx : ext H1 H2) : va_S D H H2 L :=
  ⟨Nat.le_trans h.1 hx.1, fun q hq hn => (hx.2 q (Nat.lt_of_lt_of_le hq h.1)).trans (h.2.1 q hq hn), h.2.2⟩
def mGo (f : Nat → Nat → Int32) (d : Int32) : Int32 := fl 3 (fun j s => if mGd f j d = true then s ||| (1 <<< (nI j &&& 31)) else s) 0
def mBa (f : Nat → Nat → Int32) (g : Nat → Nat) : Int32 := fl (g 3) (fun j s => if mUn f g j (nI (g 0)) = true then s ||| (1 <<< (nI j &&& 31)) else s) 0
def mCn (f : Nat → Nat → Int32) (g : Nat → Nat) : Int32 := fl (g 5) (fun j s => if mCt f j (nI (g 0)) (g 5) = true then s + 1 else s) 0
def mMa (f : Nat → Nat → Int32) (g : Nat → Nat) (k : Nat) : Int32 := if 15 < k then f 29 (k - 16) else if 11 < k then f 28 (k - 12) else if 8 < k then f 16 (k - 9) else if k = 0 then nI (g 1) else if k = 1 then nI (g 0) else if k = 2 then nI (g 3) else if k = 3 then nI (g 4) else if k = 4 then nI (g 5) else if k = 5 then mCn f g else if k = 6 then mGo f (nI (g 0)) else if k = 7 then mBa f g else nI (g 7)
theorem mMa_a {f : Nat → Nat → Int32} {g : Nat → Nat} {k : Nat} (h : 15 < k) : mMa f g k = f 29 (k - 16) := if_pos h
theorem mMa_b {f : Nat → Nat → Int32} {g : Nat → Nat} {k : Nat} (h : k ≤ 15) (h2 : 11 < k) : mMa f g k = f 28 (k - 12) := by
  unfold mMa; rw [if_neg (by omega), if_pos h2]
theorem mMa_c {f : Nat → Nat → Int32} {g : Nat → Nat} {k : Nat} (h : k ≤ 11) (h2 : 8 < k) : mMa f g k = f 16 (k - 9) := by
  unfold mMa; rw [if_neg (by omega), if_neg (by omega), if_pos h2]
theorem cle {k n : Nat} (h : nI k ≤ nI n) (hk : k < 65536) (hn : n < 65536) : k ≤ n := by
  refine Nat.not_lt.mp fun h2 => ?_
  exact absurd ((nI_ltI (by omega) (by omega)).mpr h2) (Int32.not_lt.mpr h)
theorem mMa_d {k : Nat} (f : Nat → Nat → Int32) (g : Nat → Nat) (h : k ≤ 8) : upd (upd (upd (upd (upd (upd (upd (upd (upd (fun _ => 0) (0 : Int32).toNatClampNeg (nI (g 1))) (1 : Int32).toNatClampNeg (nI (g 0))) (2 : Int32).toNatClampNeg (nI (g 3))) (3 : Int32).toNatClampNeg (nI (g 4))) (4 : Int32).toNatClampNeg (nI (g 5))) (5 : Int32).toNatClampNeg (mCn f g)) (6 : Int32).toNatClampNeg (mGo f (nI (g 0)))) (7 : Int32).toNatClampNeg (mBa f g)) (8 : Int32).toNatClampNeg (nI (g 7)) k = mMa f g k := by
  have h0 : k = 0 ∨ k = 1 ∨ k = 2 ∨ k = 3 ∨ k = 4 ∨ k = 5 ∨ k = 6 ∨ k = 7 ∨ k = 8 := by omega
  rw [show (0 : Int32).toNatClampNeg = 0 by decide, show (1 : Int32).toNatClampNeg = 1 by decide, show (2 : Int32).toNatClampNeg = 2 by decide, show (3 : Int32).toNatClampNeg = 3 by decide, show (4 : Int32).toNatClampNeg = 4 by decide, show (5 : Int32).toNatClampNeg = 5 by decide, show (6 : Int32).toNatClampNeg = 6 by decide, show (7 : Int32).toNatClampNeg = 7 by decide, show (8 : Int32).toNatClampNeg = 8 by decide]
  rcases h0 with rfl | rfl | rfl | rfl | rfl | rfl | rfl | rfl | rfl <;> simp [upd, mMa]
theorem nmX11_manyNow : nmV yX11_manyNow RX11 1 := by decide +kernel

set_option maxHeartbeats 1000000 in
set_option maxRecDepth 100000 in
theorem c_X11_manyNow (l : Launch) (G : GT) (B : Nat → Nat) (th : Int32) (mc : Nat → Int32) (cp : Nat → Nat) (f : Nat → Nat → Int32) (g : Nat → Nat) (H : Heap) (hM : MP G B th mc cp f g H) (hz : G.2.2.1 ≤ H.size) (k : Nat) (hk : k < 20) : MwV l G (fun q => H.size ≤ q) H yX11_manyNow wsX11_manyNow { frames := 7, cells := 1, slots := 9, locals := 165 } [.ref (B 0), .int (nI k)] 1 9 (fun v t => (v = some (.int (mMa f g k))) ∧ ext H t) := by
  refine mw_of (cc := cX11_manyNow) (maxL := 6) (ret := (some .int)) (by decide) rfl (Nat.le_of_ble_eq_true rfl) ?_
  intro pZ eZ sZ mZ bZ meZ cZ ls S hr hlk hl hHs hG hGX
  have S : CallFix pZ mZ cZ cX11_manyNow 6 sZ _ wsX11_manyNow RX11 := S
  have hx := S.1
  have hb := S.2.1
  have hown := S.2.2.2.1
  have hts := S.2.2.2.2
  have hl : lv_has ls 6 [(0, .ref (B 0)), (1, .int (nI k))] := hl
  have w0 := hts (.fieldLink RX11 26 "MinimaRoomModel" "notices" "Ljava/util/ArrayList;") (by decide +kernel)
  have w1 := hts (.fieldLink RX11 23 "MinimaRoomModel" "procedures" "Ljava/util/ArrayList;") (by decide +kernel)
  have w2 := hts (.arrayClass .int) (by decide +kernel)
  have w3 := hts (.fieldLink RX11 10 "MinimaRoomModel" "obstacles" "Ljava/util/ArrayList;") (by decide +kernel)
  have w4 := hts (.fieldLink RX11 156 "MinimaRoomModel" "now" "I") (by decide +kernel)
  have w5 := hts (.fieldLink RX11 178 "MinimaRoomModel" "amendments" "I") (by decide +kernel)
  have w6 := hts (.fieldLink RX11 172 "MinimaRoomModel" "\x75nsafe" "I") (by decide +kernel)
  have w7 := hts (.fieldLink RX11 20 "MinimaRoomModel" "checks" "[I") (by decide +kernel)
  have w8 := hts (.fieldLink RX11 29 "MinimaRoomModel" "loaded" "[I") (by decide +kernel)
  have w9 := hts (.fieldLink RX11 32 "MinimaRoomModel" "read" "[I") (by decide +kernel)
  have iX11 : ∀ w ∈ u_ws RX11 TX11 11, w ∈ wsX11_manyNow := by decide +kernel
  have hS : va_S (fun q => H.size ≤ q) H H [] := va_S.rf
  have hI := hM.1
  have hgb := hI.1.1
  have hg0 := hI.1.2.1
  have hg1 := hI.1.2.2.1
  have hg3 := hI.1.2.2.2.1
  have hg4 := hI.1.2.2.2.2.1
  have hg5 := hI.1.2.2.2.2.2
  have hD : DP G (fun q => H.size ≤ q) H.size := dp_new hz
  refine lv_iload_n hx hb dX11_manyNow_0 rfl (lv_at hl 1 rfl) ?_
  refine lv_bipush (v := 15) hx hb dX11_manyNow_1 (by decide) ?_
  refine lv_icmp_le (tgt := 16) hx hb dX11_manyNow_3 (by decide) (fun c1 => ?_) (fun c1 => ?_)
  · have d1 := Int32.not_lt.mpr c1
    refine lv_iload_n hx hb dX11_manyNow_16 rfl (lv_at hl 1 rfl) ?_
    refine lv_bipush (v := 11) hx hb dX11_manyNow_17 (by decide) ?_
    refine lv_icmp_le (tgt := 32) hx hb dX11_manyNow_19 (by decide) (fun c2 => ?_) (fun c2 => ?_)
    · have d2 := Int32.not_lt.mpr c2
      refine lv_iload_n hx hb dX11_manyNow_32 rfl (lv_at hl 1 rfl) ?_
      refine lv_bipush (v := 8) hx hb dX11_manyNow_33 (by decide) ?_
      refine lv_icmp_le (tgt := 48) hx hb dX11_manyNow_35 (by decide) (fun c3 => ?_) (fun c3 => ?_)
      · have d3 := Int32.not_lt.mpr c3
        refine lv_iconst (v := 0) hx hb dX11_manyNow_48 (by decide) ?_
        refine lv_istore_n (lv' := [(2, .int 0), (0, .ref (B 0)), (1, .int (nI k))]) hx hb dX11_manyNow_49 rfl hl (by decide) rfl (fun ls hl => ?_)
        refine lv_iconst (v := 0) hx hb dX11_manyNow_50 (by decide) ?_
        refine lv_istore_n (lv' := [(3, .int 0), (2, .int 0), (0, .ref (B 0)), (1, .int (nI k))]) hx hb dX11_manyNow_51 rfl hl (by decide) rfl (fun ls hl => ?_)
        have loop52 : ∀ (n52 k52 : Nat), k52 + n52 = g 5 → ∀ (z52_2 : Int32), z52_2 = fl k52 (fun j s => if mCt f j (nI (g 0)) (g 5) = true then s + 1 else s) 0 → ∀ (ls : Array Slot), lv_has ls 6 [(3, .int (nI k52)), (2, .int z52_2), (0, .ref (B 0)), (1, .int (nI k))] → W pZ l eZ ({ frames := 7, cells := 1, slots := 9, locals := 165 } : Room) sZ mZ ([.ref (B 0), .int (nI k)] : List Value).toArray bZ meZ cZ H [] 0 0 (mw_Q bZ (fun q => H.size ≤ q) H [.ref (B 0), .int (nI k)] sZ 1 9 (fun v t => (v = some (.int (mMa f g k))) ∧ ext H t)) (F0 mZ 52 ls []) := by
          intro n52
          induction n52 with
          | zero =>
            intro k52 hk52 z52_2 ez52_2 ls hl
            obtain rfl : k52 = g 5 := by omega
            refine lv_iload_n hx hb dX11_manyNow_52 rfl (lv_at hl 0 rfl) ?_
            refine lv_aload_n hx hb dX11_manyNow_53 rfl (lv_at hl 2 rfl) ?_
            refine rd_get (own := RX11) (x := .ref (B 7)) S hG.1 iX11 (mP_0 hM) 8 rfl (by decide) w0 rfl dX11_manyNow_54 ?_
            refine rd_V (As := []) (rest := [.int (nI (g 5))]) (v := some (.int (nI (g 5)))) S hG (c_Jx4a65c_size_8abf5 l G H (B 7) (eA G B cp 7 10) (mc 7) (nI (g 5)) (mP_7 hM)) gX11_manyNow_Jx4a65c_size_8abf5 rfl ⟨rfl, rfl⟩ nmJx4a65c_size_8abf5 ⟨Nat.le_of_ble_eq_true rfl, Nat.le_of_ble_eq_true rfl⟩ (rd_rcv hG.1 (mP_7 hM) rfl) rfl hl.1 rfl (Nat.le_of_ble_eq_true rfl) ⟨by show 0 ≤ 1; omega, by show 0 ≤ 9; omega⟩ dX11_manyNow_57 ?_
            refine W.eq (g2 := F0 mZ 60 ls [.int (nI (g 5)), .int (nI (g 5))]) rfl ?_
            refine lv_icmp_ge (tgt := 96) hx hb dX11_manyNow_60 (by decide) (fun c4 => ?_) (fun c4 => ?_)
            · have d4 := Int32.not_lt.mpr c4
              refine lv_iconst (v := 0) hx hb dX11_manyNow_96 (by decide) ?_
              refine lv_istore_n (lv' := [(3, .int 0), (2, .int z52_2), (0, .ref (B 0)), (1, .int (nI k))]) hx hb dX11_manyNow_97 rfl hl (by decide) rfl (fun ls hl => ?_)
              refine lv_iconst (v := 0) hx hb dX11_manyNow_98 (by decide) ?_
              refine lv_istore (lv' := [(4, .int 0), (3, .int 0), (2, .int z52_2), (0, .ref (B 0)), (1, .int (nI k))]) hx hb dX11_manyNow_99 hl (by decide) rfl (fun ls hl => ?_)
              have loop101 : ∀ (n101 k101 : Nat), k101 + n101 = 3 → ∀ (z101_3 : Int32), z101_3 = fl k101 (fun j s => if mGd f j (nI (g 0)) = true then s ||| (1 <<< (nI j &&& 31)) else s) 0 → ∀ (ls : Array Slot), lv_has ls 6 [(4, .int (nI k101)), (3, .int z101_3), (0, .ref (B 0)), (1, .int (nI k)), (2, .int z52_2)] → W pZ l eZ ({ frames := 7, cells := 1, slots := 9, locals := 165 } : Room) sZ mZ ([.ref (B 0), .int (nI k)] : List Value).toArray bZ meZ cZ H [] 0 0 (mw_Q bZ (fun q => H.size ≤ q) H [.ref (B 0), .int (nI k)] sZ 1 9 (fun v t => (v = some (.int (mMa f g k))) ∧ ext H t)) (F0 mZ 101 ls []) := by
                intro n101
                induction n101 with
                | zero =>
                  intro k101 hk101 z101_3 ez101_3 ls hl
                  obtain rfl : k101 = 3 := by omega
                  refine lv_iload hx hb dX11_manyNow_101 (lv_at hl 0 rfl) ?_
                  refine lv_iconst (v := 3) hx hb dX11_manyNow_103 (by decide) ?_
                  refine lv_icmp_ge (tgt := 137) hx hb dX11_manyNow_104 (by decide) (fun c5 => ?_) (fun c5 => ?_)
                  · have d5 := Int32.not_lt.mpr c5
                    refine lv_iconst (v := 0) hx hb dX11_manyNow_137 (by decide) ?_
                    refine lv_istore (lv' := [(4, .int 0), (3, .int z101_3), (0, .ref (B 0)), (1, .int (nI k)), (2, .int z52_2)]) hx hb dX11_manyNow_138 hl (by decide) rfl (fun ls hl => ?_)
                    refine lv_iconst (v := 0) hx hb dX11_manyNow_140 (by decide) ?_
                    refine lv_istore (lv' := [(5, .int 0), (4, .int 0), (3, .int z101_3), (0, .ref (B 0)), (1, .int (nI k)), (2, .int z52_2)]) hx hb dX11_manyNow_141 hl (by decide) rfl (fun ls hl => ?_)
                    have loop143 : ∀ (n143 k143 : Nat), k143 + n143 = g 3 → ∀ (z143_4 : Int32), z143_4 = fl k143 (fun j s => if mUn f g j (nI (g 0)) = true then s ||| (1 <<< (nI j &&& 31)) else s) 0 → ∀ (ls : Array Slot), lv_has ls 6 [(5, .int (nI k143)), (4, .int z143_4), (0, .ref (B 0)), (1, .int (nI k)), (2, .int z52_2), (3, .int z101_3)] → W pZ l eZ ({ frames := 7, cells := 1, slots := 9, locals := 165 } : Room) sZ mZ ([.ref (B 0), .int (nI k)] : List Value).toArray bZ meZ cZ H [] 0 0 (mw_Q bZ (fun q => H.size ≤ q) H [.ref (B 0), .int (nI k)] sZ 1 9 (fun v t => (v = some (.int (mMa f g k))) ∧ ext H t)) (F0 mZ 143 ls []) := by
                      intro n143
                      induction n143 with
                      | zero =>
                        intro k143 hk143 z143_4 ez143_4 ls hl
                        obtain rfl : k143 = g 3 := by omega
                        refine lv_iload hx hb dX11_manyNow_143 (lv_at hl 0 rfl) ?_
                        refine lv_aload_n hx hb dX11_manyNow_145 rfl (lv_at hl 2 rfl) ?_
                        refine rd_get (own := RX11) (x := .ref (B 6)) S hG.1 iX11 (mP_0 hM) 7 rfl (by decide) w1 rfl dX11_manyNow_146 ?_
                        refine rd_V (As := []) (rest := [.int (nI (g 3))]) (v := some (.int (nI (g 3)))) S hG (c_Jx4a65c_size_8abf5 l G H (B 6) (eA G B cp 6 9) (mc 6) (nI (g 3)) (mP_6 hM)) gX11_manyNow_Jx4a65c_size_8abf5 rfl ⟨rfl, rfl⟩ nmJx4a65c_size_8abf5 ⟨Nat.le_of_ble_eq_true rfl, Nat.le_of_ble_eq_true rfl⟩ (rd_rcv hG.1 (mP_6 hM) rfl) rfl hl.1 rfl (Nat.le_of_ble_eq_true rfl) ⟨by show 0 ≤ 1; omega, by show 0 ≤ 9; omega⟩ dX11_manyNow_149 ?_
                        refine W.eq (g2 := F0 mZ 152 ls [.int (nI (g 3)), .int (nI (g 3))]) rfl ?_
                        refine lv_icmp_ge (tgt := 187) hx hb dX11_manyNow_152 (by decide) (fun c6 => ?_) (fun c6 => ?_)
                        · have d6 := Int32.not_lt.mpr c6
                          refine lv_bipush (v := 9) hx hb dX11_manyNow_187 (by decide) ?_
                          refine mw_newa (N := 9) S hG w2 (by decide) rfl (Nat.le_of_ble_eq_true rfl) ⟨by show 0 + 1 ≤ 1; omega, by show 0 + 9 ≤ 9; omega⟩ dX11_manyNow_189 (fun H7 ha7 hz7 hx7 => ?_)
                          have hM7 := mp_ext hM hx7
                          have hG7 := gk_ext hx7 hG
                          have hS7 := vs_new hS hx7
                          have hne7 : ∀ k, mD cp g k → B k ≠ H.size := fun k hk => Nat.ne_of_lt (mp_lt hM hk)
                          have hda7 := hD.1 _ hS.1
                          refine lv_dup hx hb dX11_manyNow_191 rfl ?_
                          refine lv_iconst (v := 0) hx hb dX11_manyNow_192 (by decide) ?_
                          refine lv_aload_n hx hb dX11_manyNow_193 rfl (lv_at hl 2 rfl) ?_
                          refine rd_get (own := RX11) (x := .ref (B 5)) S hG7.1 iX11 (mP_0 hM7) 4 rfl (by decide) w3 rfl dX11_manyNow_194 ?_
                          refine rd_V (As := []) (rest := [.int 0, .ref (H.size), .ref (H.size)]) (v := some (.int (nI (g 1)))) S hG7 (c_Jx4a65c_size_8abf5 l G H7 (B 5) (eA G B cp 5 8) (mc 5) (nI (g 1)) (mP_5 hM7)) gX11_manyNow_Jx4a65c_size_8abf5 rfl ⟨rfl, rfl⟩ nmJx4a65c_size_8abf5 ⟨Nat.le_of_ble_eq_true rfl, Nat.le_of_ble_eq_true rfl⟩ (rd_rcv hG7.1 (mP_5 hM7) rfl) rfl hl.1 rfl (Nat.le_of_ble_eq_true rfl) ⟨by show 1 ≤ 1; omega, by show 9 ≤ 9; omega⟩ dX11_manyNow_197 ?_
                          refine W.eq (g2 := F0 mZ 200 ls [.int (nI (g 1)), .int 0, .ref (H.size), .ref (H.size)]) rfl ?_
                          refine mw_iast S hD hG7 hS7 hda7 ha7 (vp_in_nI (n := 0) (by decide) (by decide)) dX11_manyNow_200 (fun H8 locs8 ha8 hz8 hq8 hS8 hG8 => ?_)
                          have hM8 := mp_kept hM7 (fun k hk => hq8 _ (hne7 k hk))
                          refine lv_dup hx hb dX11_manyNow_201 rfl ?_
                          refine lv_iconst (v := 1) hx hb dX11_manyNow_202 (by decide) ?_
                          refine lv_aload_n hx hb dX11_manyNow_203 rfl (lv_at hl 2 rfl) ?_
                          refine rd_get (own := RX11) (x := .int (nI (g 0))) S hG8.1 iX11 (mP_0 hM8) 1 rfl (by decide) w4 rfl dX11_manyNow_204 ?_
                          refine mw_iast S hD hG8 hS8 hda7 ha8 (vp_in_nI (n := 1) (by decide) (by decide)) dX11_manyNow_207 (fun H9 locs9 ha9 hz9 hq9 hS9 hG9 => ?_)
                          have hM9 := mp_kept hM8 (fun k hk => hq9 _ (hne7 k hk))
                          refine lv_dup hx hb dX11_manyNow_208 rfl ?_
                          refine lv_iconst (v := 2) hx hb dX11_manyNow_209 (by decide) ?_
                          refine lv_aload_n hx hb dX11_manyNow_210 rfl (lv_at hl 2 rfl) ?_
                          refine rd_get (own := RX11) (x := .ref (B 6)) S hG9.1 iX11 (mP_0 hM9) 7 rfl (by decide) w1 rfl dX11_manyNow_211 ?_
                          refine rd_V (As := []) (rest := [.int 2, .ref (H.size), .ref (H.size)]) (v := some (.int (nI (g 3)))) S hG9 (c_Jx4a65c_size_8abf5 l G H9 (B 6) (eA G B cp 6 9) (mc 6) (nI (g 3)) (mP_6 hM9)) gX11_manyNow_Jx4a65c_size_8abf5 rfl ⟨rfl, rfl⟩ nmJx4a65c_size_8abf5 ⟨Nat.le_of_ble_eq_true rfl, Nat.le_of_ble_eq_true rfl⟩ (rd_rcv hG9.1 (mP_6 hM9) rfl) rfl hl.1 rfl (Nat.le_of_ble_eq_true rfl) ⟨by show 1 ≤ 1; omega, by show 9 ≤ 9; omega⟩ dX11_manyNow_214 ?_
                          refine W.eq (g2 := F0 mZ 217 ls [.int (nI (g 3)), .int 2, .ref (H.size), .ref (H.size)]) rfl ?_
                          refine mw_iast S hD hG9 hS9 hda7 ha9 (vp_in_nI (n := 2) (by decide) (by decide)) dX11_manyNow_217 (fun H10 locs10 ha10 hz10 hq10 hS10 hG10 => ?_)
                          have hM10 := mp_kept hM9 (fun k hk => hq10 _ (hne7 k hk))
                          refine lv_dup hx hb dX11_manyNow_218 rfl ?_
                          refine lv_iconst (v := 3) hx hb dX11_manyNow_219 (by decide) ?_
                          refine lv_aload_n hx hb dX11_manyNow_220 rfl (lv_at hl 2 rfl) ?_
                          refine rd_get (own := RX11) (x := .int (nI (g 4))) S hG10.1 iX11 (mP_0 hM10) 3 rfl (by decide) w5 rfl dX11_manyNow_221 ?_
                          refine mw_iast S hD hG10 hS10 hda7 ha10 (vp_in_nI (n := 3) (by decide) (by decide)) dX11_manyNow_224 (fun H11 locs11 ha11 hz11 hq11 hS11 hG11 => ?_)
                          have hM11 := mp_kept hM10 (fun k hk => hq11 _ (hne7 k hk))
                          refine lv_dup hx hb dX11_manyNow_225 rfl ?_
                          refine lv_iconst (v := 4) hx hb dX11_manyNow_226 (by decide) ?_
                          refine lv_aload_n hx hb dX11_manyNow_227 rfl (lv_at hl 2 rfl) ?_
                          refine rd_get (own := RX11) (x := .ref (B 7)) S hG11.1 iX11 (mP_0 hM11) 8 rfl (by decide) w0 rfl dX11_manyNow_228 ?_
                          refine rd_V (As := []) (rest := [.int 4, .ref (H.size), .ref (H.size)]) (v := some (.int (nI (g 5)))) S hG11 (c_Jx4a65c_size_8abf5 l G H11 (B 7) (eA G B cp 7 10) (mc 7) (nI (g 5)) (mP_7 hM11)) gX11_manyNow_Jx4a65c_size_8abf5 rfl ⟨rfl, rfl⟩ nmJx4a65c_size_8abf5 ⟨Nat.le_of_ble_eq_true rfl, Nat.le_of_ble_eq_true rfl⟩ (rd_rcv hG11.1 (mP_7 hM11) rfl) rfl hl.1 rfl (Nat.le_of_ble_eq_true rfl) ⟨by show 1 ≤ 1; omega, by show 9 ≤ 9; omega⟩ dX11_manyNow_231 ?_
                          refine W.eq (g2 := F0 mZ 234 ls [.int (nI (g 5)), .int 4, .ref (H.size), .ref (H.size)]) rfl ?_
                          refine mw_iast S hD hG11 hS11 hda7 ha11 (vp_in_nI (n := 4) (by decide) (by decide)) dX11_manyNow_234 (fun H12 locs12 ha12 hz12 hq12 hS12 hG12 => ?_)
                          have hM12 := mp_kept hM11 (fun k hk => hq12 _ (hne7 k hk))
                          refine lv_dup hx hb dX11_manyNow_235 rfl ?_
                          refine lv_iconst (v := 5) hx hb dX11_manyNow_236 (by decide) ?_
                          refine lv_iload_n hx hb dX11_manyNow_237 rfl (lv_at hl 4 rfl) ?_
                          refine mw_iast S hD hG12 hS12 hda7 ha12 (vp_in_nI (n := 5) (by decide) (by decide)) dX11_manyNow_238 (fun H13 locs13 ha13 hz13 hq13 hS13 hG13 => ?_)
                          have hM13 := mp_kept hM12 (fun k hk => hq13 _ (hne7 k hk))
                          refine lv_dup hx hb dX11_manyNow_239 rfl ?_
                          refine lv_bipush (v := 6) hx hb dX11_manyNow_240 (by decide) ?_
                          refine lv_iload_n hx hb dX11_manyNow_242 rfl (lv_at hl 5 rfl) ?_
                          refine mw_iast S hD hG13 hS13 hda7 ha13 (vp_in_nI (n := 6) (by decide) (by decide)) dX11_manyNow_243 (fun H14 locs14 ha14 hz14 hq14 hS14 hG14 => ?_)
                          have hM14 := mp_kept hM13 (fun k hk => hq14 _ (hne7 k hk))
                          refine lv_dup hx hb dX11_manyNow_244 rfl ?_
                          refine lv_bipush (v := 7) hx hb dX11_manyNow_245 (by decide) ?_
                          refine lv_iload hx hb dX11_manyNow_247 (lv_at hl 1 rfl) ?_
                          refine mw_iast S hD hG14 hS14 hda7 ha14 (vp_in_nI (n := 7) (by decide) (by decide)) dX11_manyNow_249 (fun H15 locs15 ha15 hz15 hq15 hS15 hG15 => ?_)
                          have hM15 := mp_kept hM14 (fun k hk => hq15 _ (hne7 k hk))
                          refine lv_dup hx hb dX11_manyNow_250 rfl ?_
                          refine lv_bipush (v := 8) hx hb dX11_manyNow_251 (by decide) ?_
                          refine lv_aload_n hx hb dX11_manyNow_253 rfl (lv_at hl 2 rfl) ?_
                          refine rd_get (own := RX11) (x := .int (nI (g 7))) S hG15.1 iX11 (mP_0 hM15) 2 rfl (by decide) w6 rfl dX11_manyNow_254 ?_
                          refine mw_iast S hD hG15 hS15 hda7 ha15 (vp_in_nI (n := 8) (by decide) (by decide)) dX11_manyNow_257 (fun H16 locs16 ha16 hz16 hq16 hS16 hG16 => ?_)
                          have hM16 := mp_kept hM15 (fun k hk => hq16 _ (hne7 k hk))
                          refine lv_astore (lv' := [(5, .ref (H.size)), (4, .int z143_4), (0, .ref (B 0)), (1, .int (nI k)), (2, .int z52_2), (3, .int z101_3)]) hx hb dX11_manyNow_258 hl (by decide) rfl (fun ls hl => ?_)
                          refine lv_aload hx hb dX11_manyNow_260 (lv_at hl 0 rfl) ?_
                          have hhi := cle c3 (n := 8) (by omega) (by decide)
                          refine lv_iload_n hx hb dX11_manyNow_262 rfl (lv_at hl 3 rfl) ?_
                          refine rd_iald S hG16.1 ha16 (vp_in_nI (by omega) (by decide)) dX11_manyNow_263 ?_
                          exact mw_iret S hr hlk hS16 ⟨by show 1 ≤ 1; omega, by show 9 ≤ 9; omega⟩ dX11_manyNow_264 ⟨congrArg (fun z => some (Value.int z)) (by subst ez143_4; subst ez101_3; subst ez52_2; rw [nI_clamp (by omega)]; exact mMa_d _ _ (by omega)), ext_of hS16⟩
                        · exact absurd (nI_le (by omega) (by omega)) c6
                      | succ n143 ih143 =>
                        intro k143 hk143 z143_4 ez143_4 ls hl
                        refine lv_iload hx hb dX11_manyNow_143 (lv_at hl 0 rfl) ?_
                        refine lv_aload_n hx hb dX11_manyNow_145 rfl (lv_at hl 2 rfl) ?_
                        refine rd_get (own := RX11) (x := .ref (B 6)) S hG.1 iX11 (mP_0 hM) 7 rfl (by decide) w1 rfl dX11_manyNow_146 ?_
                        refine rd_V (As := []) (rest := [.int (nI k143)]) (v := some (.int (nI (g 3)))) S hG (c_Jx4a65c_size_8abf5 l G H (B 6) (eA G B cp 6 9) (mc 6) (nI (g 3)) (mP_6 hM)) gX11_manyNow_Jx4a65c_size_8abf5 rfl ⟨rfl, rfl⟩ nmJx4a65c_size_8abf5 ⟨Nat.le_of_ble_eq_true rfl, Nat.le_of_ble_eq_true rfl⟩ (rd_rcv hG.1 (mP_6 hM) rfl) rfl hl.1 rfl (Nat.le_of_ble_eq_true rfl) ⟨by show 0 ≤ 1; omega, by show 0 ≤ 9; omega⟩ dX11_manyNow_149 ?_
                        refine W.eq (g2 := F0 mZ 152 ls [.int (nI (g 3)), .int (nI k143)]) rfl ?_
                        refine lv_icmp_ge (tgt := 187) hx hb dX11_manyNow_152 (by decide) (fun c17 => ?_) (fun c17 => ?_)
                        · exact absurd c17 (nI_ge (by omega) (by omega))
                        · have d17 := Int32.not_le.mp c17
                          refine lv_iload hx hb dX11_manyNow_155 (lv_at hl 1 rfl) ?_
                          refine lv_aload_n hx hb dX11_manyNow_157 rfl (lv_at hl 2 rfl) ?_
                          refine lv_iload hx hb dX11_manyNow_158 (lv_at hl 0 rfl) ?_
                          refine lv_aload_n hx hb dX11_manyNow_160 rfl (lv_at hl 2 rfl) ?_
                          refine rd_get (own := RX11) (x := .int (nI (g 0))) S hG.1 iX11 (mP_0 hM) 1 rfl (by decide) w4 rfl dX11_manyNow_161 ?_
                          refine rd_V (As := [.int (nI k143), .int (nI (g 0))]) (rest := [.int z143_4]) (v := some (.int (b2i (mUn f g k143 (nI (g 0)) = true)))) S hG (c_X11_isUnsafe l G B th mc cp f g H hM k143 (nI (g 0)) (by omega)) gX11_manyNow_X11_isUnsafe rfl ⟨rfl, rfl⟩ nmX11_isUnsafe ⟨Nat.le_of_ble_eq_true rfl, Nat.le_of_ble_eq_true rfl⟩ (rd_rcv hG.1 (mP_0 hM) rfl) rfl hl.1 rfl (Nat.le_of_ble_eq_true rfl) ⟨by show 0 ≤ 1; omega, by show 0 ≤ 9; omega⟩ dX11_manyNow_164 ?_
                          refine W.eq (g2 := F0 mZ 167 ls [.int (b2i (mUn f g k143 (nI (g 0)) = true)), .int z143_4]) rfl ?_
                          refine lv_if_eq (tgt := 177) hx hb dX11_manyNow_167 (by decide) (fun c18 => ?_) (fun c18 => ?_)
                          · have c18 := b2i_z.mp c18
                            refine lv_iconst (v := 0) hx hb dX11_manyNow_177 (by decide) ?_
                            refine lv_ior hx hb dX11_manyNow_178 ?_
                            refine lv_topi (fun x19 ex19 => ?_)
                            refine lv_istore (lv' := [(4, .int x19), (5, .int (nI k143)), (0, .ref (B 0)), (1, .int (nI k)), (2, .int z52_2), (3, .int z101_3)]) hx hb dX11_manyNow_179 hl (by decide) rfl (fun ls hl => ?_)
                            refine lv_iinc (v := nI (k143 + 1)) (lv' := [(5, .int (nI (k143 + 1))), (4, .int x19), (0, .ref (B 0)), (1, .int (nI k)), (2, .int z52_2), (3, .int z101_3)]) hx hb dX11_manyNow_181 hl (k := 1) rfl (nI_inc _) (by decide) rfl (fun ls hl => ?_)
                            refine lv_goto (tgt := 143) hx hb dX11_manyNow_184 (by decide) ?_
                            exact ih143 (k143 + 1) (by omega) _ (by subst ex19; subst ez143_4; subst ez101_3; subst ez52_2; first | rfl | (simp only [fl, mMa, c1, d1, c2, d2, c3, d3, c4, d4, c5, d5, c17, d17, c18, ne_eq, not_true_eq_false, not_false_eq_true, and_true, true_and, and_false, false_and, or_true, true_or, or_false, false_or, and_self, or_self, decide_eq_true_eq, ↓reduceIte]; done) | (simp only [fl, mMa, c1, d1, c2, d2, c3, d3, c4, d4, c5, d5, c17, d17, c18, ne_eq, not_true_eq_false, not_false_eq_true, and_true, true_and, and_false, false_and, or_true, true_or, or_false, false_or, and_self, or_self, decide_eq_true_eq, ↓reduceIte]; rfl) | (simp [fl, mMa, c1, d1, c2, d2, c3, d3, c4, d4, c5, d5, c17, d17, c18]; done) | (simp only [fl, mMa, c1, d1, c2, d2, c3, d3, c4, d4, c5, d5, c17, d17, c18, ne_eq, not_true_eq_false, not_false_eq_true, and_true, true_and, and_false, false_and, or_true, true_or, or_false, false_or, and_self, or_self, decide_eq_true_eq, ↓reduceIte])) ls (lv_sub hl [0, 1, 2, 3, 4, 5] rfl)
                          · have c18 := b2i_nz.mp c18
                            refine lv_iconst (v := 1) hx hb dX11_manyNow_170 (by decide) ?_
                            refine lv_iload hx hb dX11_manyNow_171 (lv_at hl 0 rfl) ?_
                            refine lv_ishl hx hb dX11_manyNow_173 ?_
                            refine lv_goto (tgt := 178) hx hb dX11_manyNow_174 (by decide) ?_
                            refine lv_ior hx hb dX11_manyNow_178 ?_
                            refine lv_topi (fun x20 ex20 => ?_)
                            refine lv_istore (lv' := [(4, .int x20), (5, .int (nI k143)), (0, .ref (B 0)), (1, .int (nI k)), (2, .int z52_2), (3, .int z101_3)]) hx hb dX11_manyNow_179 hl (by decide) rfl (fun ls hl => ?_)
                            refine lv_iinc (v := nI (k143 + 1)) (lv' := [(5, .int (nI (k143 + 1))), (4, .int x20), (0, .ref (B 0)), (1, .int (nI k)), (2, .int z52_2), (3, .int z101_3)]) hx hb dX11_manyNow_181 hl (k := 1) rfl (nI_inc _) (by decide) rfl (fun ls hl => ?_)
                            refine lv_goto (tgt := 143) hx hb dX11_manyNow_184 (by decide) ?_
                            exact ih143 (k143 + 1) (by omega) _ (by subst ex20; subst ez143_4; subst ez101_3; subst ez52_2; first | rfl | (simp only [fl, mMa, c1, d1, c2, d2, c3, d3, c4, d4, c5, d5, c17, d17, c18, ne_eq, not_true_eq_false, not_false_eq_true, and_true, true_and, and_false, false_and, or_true, true_or, or_false, false_or, and_self, or_self, decide_eq_true_eq, ↓reduceIte]; done) | (simp only [fl, mMa, c1, d1, c2, d2, c3, d3, c4, d4, c5, d5, c17, d17, c18, ne_eq, not_true_eq_false, not_false_eq_true, and_true, true_and, and_false, false_and, or_true, true_or, or_false, false_or, and_self, or_self, decide_eq_true_eq, ↓reduceIte]; rfl) | (simp [fl, mMa, c1, d1, c2, d2, c3, d3, c4, d4, c5, d5, c17, d17, c18]; done) | (simp only [fl, mMa, c1, d1, c2, d2, c3, d3, c4, d4, c5, d5, c17, d17, c18, ne_eq, not_true_eq_false, not_false_eq_true, and_true, true_and, and_false, false_and, or_true, true_or, or_false, false_or, and_self, or_self, decide_eq_true_eq, ↓reduceIte])) ls (lv_sub hl [0, 1, 2, 3, 4, 5] rfl)
                    exact loop143 (g 3) 0 (by omega) _ (by subst ez101_3; subst ez52_2; first | rfl | first | rfl | (simp only [fl, mMa, c1, d1, c2, d2, c3, d3, c4, d4, c5, d5, ne_eq, not_true_eq_false, not_false_eq_true, and_true, true_and, and_false, false_and, or_true, true_or, or_false, false_or, and_self, or_self, decide_eq_true_eq, ↓reduceIte]; done) | (simp only [fl, mMa, c1, d1, c2, d2, c3, d3, c4, d4, c5, d5, ne_eq, not_true_eq_false, not_false_eq_true, and_true, true_and, and_false, false_and, or_true, true_or, or_false, false_or, and_self, or_self, decide_eq_true_eq, ↓reduceIte]; rfl) | (simp [fl, mMa, c1, d1, c2, d2, c3, d3, c4, d4, c5, d5]; done) | (simp only [fl, mMa, c1, d1, c2, d2, c3, d3, c4, d4, c5, d5, ne_eq, not_true_eq_false, not_false_eq_true, and_true, true_and, and_false, false_and, or_true, true_or, or_false, false_or, and_self, or_self, decide_eq_true_eq, ↓reduceIte])) ls (lv_sub hl [0, 1, 3, 4, 5, 2] rfl)
                  · have c5 : ¬ (nI 3 ≤ nI 3) := c5; exact absurd (nI_le (by omega) (by omega)) c5
                | succ n101 ih101 =>
                  intro k101 hk101 z101_3 ez101_3 ls hl
                  refine lv_iload hx hb dX11_manyNow_101 (lv_at hl 0 rfl) ?_
                  refine lv_iconst (v := 3) hx hb dX11_manyNow_103 (by decide) ?_
                  refine lv_icmp_ge (tgt := 137) hx hb dX11_manyNow_104 (by decide) (fun c21 => ?_) (fun c21 => ?_)
                  · have c21 : nI 3 ≤ nI k101 := c21; exact absurd c21 (nI_ge (by omega) (by omega))
                  · have d21 := Int32.not_le.mp c21
                    refine lv_iload_n hx hb dX11_manyNow_107 rfl (lv_at hl 1 rfl) ?_
                    refine lv_aload_n hx hb dX11_manyNow_108 rfl (lv_at hl 2 rfl) ?_
                    refine lv_iload hx hb dX11_manyNow_109 (lv_at hl 0 rfl) ?_
                    refine lv_aload_n hx hb dX11_manyNow_111 rfl (lv_at hl 2 rfl) ?_
                    refine rd_get (own := RX11) (x := .int (nI (g 0))) S hG.1 iX11 (mP_0 hM) 1 rfl (by decide) w4 rfl dX11_manyNow_112 ?_
                    refine rd_V (As := [.int (nI k101), .int (nI (g 0))]) (rest := [.int z101_3]) (v := some (.int (b2i (mGd f k101 (nI (g 0)) = true)))) S hG (c_X11_isGood l G B th mc cp f g H hM k101 (nI (g 0)) (by omega)) gX11_manyNow_X11_isGood rfl ⟨rfl, rfl⟩ nmX11_isGood ⟨Nat.le_of_ble_eq_true rfl, Nat.le_of_ble_eq_true rfl⟩ (rd_rcv hG.1 (mP_0 hM) rfl) rfl hl.1 rfl (Nat.le_of_ble_eq_true rfl) ⟨by show 0 ≤ 1; omega, by show 0 ≤ 9; omega⟩ dX11_manyNow_115 ?_
                    refine W.eq (g2 := F0 mZ 118 ls [.int (b2i (mGd f k101 (nI (g 0)) = true)), .int z101_3]) rfl ?_
                    refine lv_if_eq (tgt := 128) hx hb dX11_manyNow_118 (by decide) (fun c22 => ?_) (fun c22 => ?_)
                    · have c22 := b2i_z.mp c22
                      refine lv_iconst (v := 0) hx hb dX11_manyNow_128 (by decide) ?_
                      refine lv_ior hx hb dX11_manyNow_129 ?_
                      refine lv_topi (fun x23 ex23 => ?_)
                      refine lv_istore_n (lv' := [(3, .int x23), (4, .int (nI k101)), (0, .ref (B 0)), (1, .int (nI k)), (2, .int z52_2)]) hx hb dX11_manyNow_130 rfl hl (by decide) rfl (fun ls hl => ?_)
                      refine lv_iinc (v := nI (k101 + 1)) (lv' := [(4, .int (nI (k101 + 1))), (3, .int x23), (0, .ref (B 0)), (1, .int (nI k)), (2, .int z52_2)]) hx hb dX11_manyNow_131 hl (k := 1) rfl (nI_inc _) (by decide) rfl (fun ls hl => ?_)
                      refine lv_goto (tgt := 101) hx hb dX11_manyNow_134 (by decide) ?_
                      exact ih101 (k101 + 1) (by omega) _ (by subst ex23; subst ez101_3; subst ez52_2; first | rfl | (simp only [fl, mMa, c1, d1, c2, d2, c3, d3, c4, d4, c21, d21, c22, ne_eq, not_true_eq_false, not_false_eq_true, and_true, true_and, and_false, false_and, or_true, true_or, or_false, false_or, and_self, or_self, decide_eq_true_eq, ↓reduceIte]; done) | (simp only [fl, mMa, c1, d1, c2, d2, c3, d3, c4, d4, c21, d21, c22, ne_eq, not_true_eq_false, not_false_eq_true, and_true, true_and, and_false, false_and, or_true, true_or, or_false, false_or, and_self, or_self, decide_eq_true_eq, ↓reduceIte]; rfl) | (simp [fl, mMa, c1, d1, c2, d2, c3, d3, c4, d4, c21, d21, c22]; done) | (simp only [fl, mMa, c1, d1, c2, d2, c3, d3, c4, d4, c21, d21, c22, ne_eq, not_true_eq_false, not_false_eq_true, and_true, true_and, and_false, false_and, or_true, true_or, or_false, false_or, and_self, or_self, decide_eq_true_eq, ↓reduceIte])) ls (lv_sub hl [0, 1, 2, 3, 4] rfl)
                    · have c22 := b2i_nz.mp c22
                      refine lv_iconst (v := 1) hx hb dX11_manyNow_121 (by decide) ?_
                      refine lv_iload hx hb dX11_manyNow_122 (lv_at hl 0 rfl) ?_
                      refine lv_ishl hx hb dX11_manyNow_124 ?_
                      refine lv_goto (tgt := 129) hx hb dX11_manyNow_125 (by decide) ?_
                      refine lv_ior hx hb dX11_manyNow_129 ?_
                      refine lv_topi (fun x24 ex24 => ?_)
                      refine lv_istore_n (lv' := [(3, .int x24), (4, .int (nI k101)), (0, .ref (B 0)), (1, .int (nI k)), (2, .int z52_2)]) hx hb dX11_manyNow_130 rfl hl (by decide) rfl (fun ls hl => ?_)
                      refine lv_iinc (v := nI (k101 + 1)) (lv' := [(4, .int (nI (k101 + 1))), (3, .int x24), (0, .ref (B 0)), (1, .int (nI k)), (2, .int z52_2)]) hx hb dX11_manyNow_131 hl (k := 1) rfl (nI_inc _) (by decide) rfl (fun ls hl => ?_)
                      refine lv_goto (tgt := 101) hx hb dX11_manyNow_134 (by decide) ?_
                      exact ih101 (k101 + 1) (by omega) _ (by subst ex24; subst ez101_3; subst ez52_2; first | rfl | (simp only [fl, mMa, c1, d1, c2, d2, c3, d3, c4, d4, c21, d21, c22, ne_eq, not_true_eq_false, not_false_eq_true, and_true, true_and, and_false, false_and, or_true, true_or, or_false, false_or, and_self, or_self, decide_eq_true_eq, ↓reduceIte]; done) | (simp only [fl, mMa, c1, d1, c2, d2, c3, d3, c4, d4, c21, d21, c22, ne_eq, not_true_eq_false, not_false_eq_true, and_true, true_and, and_false, false_and, or_true, true_or, or_false, false_or, and_self, or_self, decide_eq_true_eq, ↓reduceIte]; rfl) | (simp [fl, mMa, c1, d1, c2, d2, c3, d3, c4, d4, c21, d21, c22]; done) | (simp only [fl, mMa, c1, d1, c2, d2, c3, d3, c4, d4, c21, d21, c22, ne_eq, not_true_eq_false, not_false_eq_true, and_true, true_and, and_false, false_and, or_true, true_or, or_false, false_or, and_self, or_self, decide_eq_true_eq, ↓reduceIte])) ls (lv_sub hl [0, 1, 2, 3, 4] rfl)
              exact loop101 3 0 (by omega) _ (by subst ez52_2; first | rfl | first | rfl | (simp only [fl, mMa, c1, d1, c2, d2, c3, d3, c4, d4, ne_eq, not_true_eq_false, not_false_eq_true, and_true, true_and, and_false, false_and, or_true, true_or, or_false, false_or, and_self, or_self, decide_eq_true_eq, ↓reduceIte]; done) | (simp only [fl, mMa, c1, d1, c2, d2, c3, d3, c4, d4, ne_eq, not_true_eq_false, not_false_eq_true, and_true, true_and, and_false, false_and, or_true, true_or, or_false, false_or, and_self, or_self, decide_eq_true_eq, ↓reduceIte]; rfl) | (simp [fl, mMa, c1, d1, c2, d2, c3, d3, c4, d4]; done) | (simp only [fl, mMa, c1, d1, c2, d2, c3, d3, c4, d4, ne_eq, not_true_eq_false, not_false_eq_true, and_true, true_and, and_false, false_and, or_true, true_or, or_false, false_or, and_self, or_self, decide_eq_true_eq, ↓reduceIte])) ls (lv_sub hl [0, 1, 3, 4, 2] rfl)
            · exact absurd (nI_le (by omega) (by omega)) c4
          | succ n52 ih52 =>
            intro k52 hk52 z52_2 ez52_2 ls hl
            refine lv_iload_n hx hb dX11_manyNow_52 rfl (lv_at hl 0 rfl) ?_
            refine lv_aload_n hx hb dX11_manyNow_53 rfl (lv_at hl 2 rfl) ?_
            refine rd_get (own := RX11) (x := .ref (B 7)) S hG.1 iX11 (mP_0 hM) 8 rfl (by decide) w0 rfl dX11_manyNow_54 ?_
            refine rd_V (As := []) (rest := [.int (nI k52)]) (v := some (.int (nI (g 5)))) S hG (c_Jx4a65c_size_8abf5 l G H (B 7) (eA G B cp 7 10) (mc 7) (nI (g 5)) (mP_7 hM)) gX11_manyNow_Jx4a65c_size_8abf5 rfl ⟨rfl, rfl⟩ nmJx4a65c_size_8abf5 ⟨Nat.le_of_ble_eq_true rfl, Nat.le_of_ble_eq_true rfl⟩ (rd_rcv hG.1 (mP_7 hM) rfl) rfl hl.1 rfl (Nat.le_of_ble_eq_true rfl) ⟨by show 0 ≤ 1; omega, by show 0 ≤ 9; omega⟩ dX11_manyNow_57 ?_
            refine W.eq (g2 := F0 mZ 60 ls [.int (nI (g 5)), .int (nI k52)]) rfl ?_
            refine lv_icmp_ge (tgt := 96) hx hb dX11_manyNow_60 (by decide) (fun c25 => ?_) (fun c25 => ?_)
            · exact absurd c25 (nI_ge (by omega) (by omega))
            · have d25 := Int32.not_le.mp c25
              refine lv_iload_n hx hb dX11_manyNow_63 rfl (lv_at hl 1 rfl) ?_
              refine lv_aload_n hx hb dX11_manyNow_64 rfl (lv_at hl 2 rfl) ?_
              refine lv_iload_n hx hb dX11_manyNow_65 rfl (lv_at hl 0 rfl) ?_
              refine lv_aload_n hx hb dX11_manyNow_66 rfl (lv_at hl 2 rfl) ?_
              refine rd_get (own := RX11) (x := .int (nI (g 0))) S hG.1 iX11 (mP_0 hM) 1 rfl (by decide) w4 rfl dX11_manyNow_67 ?_
              refine lv_aload_n hx hb dX11_manyNow_70 rfl (lv_at hl 2 rfl) ?_
              refine rd_get (own := RX11) (x := .ref (B 7)) S hG.1 iX11 (mP_0 hM) 8 rfl (by decide) w0 rfl dX11_manyNow_71 ?_
              refine rd_V (As := []) (rest := [.int (nI (g 0)), .int (nI k52), .ref (B 0), .int z52_2]) (v := some (.int (nI (g 5)))) S hG (c_Jx4a65c_size_8abf5 l G H (B 7) (eA G B cp 7 10) (mc 7) (nI (g 5)) (mP_7 hM)) gX11_manyNow_Jx4a65c_size_8abf5 rfl ⟨rfl, rfl⟩ nmJx4a65c_size_8abf5 ⟨Nat.le_of_ble_eq_true rfl, Nat.le_of_ble_eq_true rfl⟩ (rd_rcv hG.1 (mP_7 hM) rfl) rfl hl.1 rfl (Nat.le_of_ble_eq_true rfl) ⟨by show 0 ≤ 1; omega, by show 0 ≤ 9; omega⟩ dX11_manyNow_74 ?_
              refine W.eq (g2 := F0 mZ 77 ls [.int (nI (g 5)), .int (nI (g 0)), .int (nI k52), .ref (B 0), .int z52_2]) rfl ?_
              refine rd_V (As := [.int (nI k52), .int (nI (g 0)), .int (nI (g 5))]) (rest := [.int z52_2]) (v := some (.int (b2i (mCt f k52 (nI (g 0)) (g 5) = true)))) S hG (c_X11_counts l G B th mc cp f g H hM k52 (nI (g 0)) (g 5) (by omega) (by omega)) gX11_manyNow_X11_counts rfl ⟨rfl, rfl⟩ nmX11_counts ⟨Nat.le_of_ble_eq_true rfl, Nat.le_of_ble_eq_true rfl⟩ (rd_rcv hG.1 (mP_0 hM) rfl) rfl hl.1 rfl (Nat.le_of_ble_eq_true rfl) ⟨by show 0 ≤ 1; omega, by show 0 ≤ 9; omega⟩ dX11_manyNow_77 ?_
              refine W.eq (g2 := F0 mZ 80 ls [.int (b2i (mCt f k52 (nI (g 0)) (g 5) = true)), .int z52_2]) rfl ?_
              refine lv_if_eq (tgt := 87) hx hb dX11_manyNow_80 (by decide) (fun c26 => ?_) (fun c26 => ?_)
              · have c26 := b2i_z.mp c26
                refine lv_iconst (v := 0) hx hb dX11_manyNow_87 (by decide) ?_
                refine lv_iadd hx hb dX11_manyNow_88 ?_
                refine lv_topi (fun x27 ex27 => ?_)
                refine lv_istore_n (lv' := [(2, .int x27), (3, .int (nI k52)), (0, .ref (B 0)), (1, .int (nI k))]) hx hb dX11_manyNow_89 rfl hl (by decide) rfl (fun ls hl => ?_)
                refine lv_iinc (v := nI (k52 + 1)) (lv' := [(3, .int (nI (k52 + 1))), (2, .int x27), (0, .ref (B 0)), (1, .int (nI k))]) hx hb dX11_manyNow_90 hl (k := 1) rfl (nI_inc _) (by decide) rfl (fun ls hl => ?_)
                refine lv_goto (tgt := 52) hx hb dX11_manyNow_93 (by decide) ?_
                exact ih52 (k52 + 1) (by omega) _ (by subst ex27; subst ez52_2; first | rfl | (simp only [fl, mMa, c1, d1, c2, d2, c3, d3, c25, d25, c26, ne_eq, not_true_eq_false, not_false_eq_true, and_true, true_and, and_false, false_and, or_true, true_or, or_false, false_or, and_self, or_self, decide_eq_true_eq, ↓reduceIte]; done) | (simp only [fl, mMa, c1, d1, c2, d2, c3, d3, c25, d25, c26, ne_eq, not_true_eq_false, not_false_eq_true, and_true, true_and, and_false, false_and, or_true, true_or, or_false, false_or, and_self, or_self, decide_eq_true_eq, ↓reduceIte]; rfl) | (simp [fl, mMa, c1, d1, c2, d2, c3, d3, c25, d25, c26]; done) | (simp only [fl, mMa, c1, d1, c2, d2, c3, d3, c25, d25, c26, ne_eq, not_true_eq_false, not_false_eq_true, and_true, true_and, and_false, false_and, or_true, true_or, or_false, false_or, and_self, or_self, decide_eq_true_eq, ↓reduceIte])) ls (lv_sub hl [0, 1, 2, 3] rfl)
              · have c26 := b2i_nz.mp c26
                refine lv_iconst (v := 1) hx hb dX11_manyNow_83 (by decide) ?_
                refine lv_goto (tgt := 88) hx hb dX11_manyNow_84 (by decide) ?_
                refine lv_iadd hx hb dX11_manyNow_88 ?_
                refine lv_topi (fun x28 ex28 => ?_)
                refine lv_istore_n (lv' := [(2, .int x28), (3, .int (nI k52)), (0, .ref (B 0)), (1, .int (nI k))]) hx hb dX11_manyNow_89 rfl hl (by decide) rfl (fun ls hl => ?_)
                refine lv_iinc (v := nI (k52 + 1)) (lv' := [(3, .int (nI (k52 + 1))), (2, .int x28), (0, .ref (B 0)), (1, .int (nI k))]) hx hb dX11_manyNow_90 hl (k := 1) rfl (nI_inc _) (by decide) rfl (fun ls hl => ?_)
                refine lv_goto (tgt := 52) hx hb dX11_manyNow_93 (by decide) ?_
                exact ih52 (k52 + 1) (by omega) _ (by subst ex28; subst ez52_2; first | rfl | (simp only [fl, mMa, c1, d1, c2, d2, c3, d3, c25, d25, c26, ne_eq, not_true_eq_false, not_false_eq_true, and_true, true_and, and_false, false_and, or_true, true_or, or_false, false_or, and_self, or_self, decide_eq_true_eq, ↓reduceIte]; done) | (simp only [fl, mMa, c1, d1, c2, d2, c3, d3, c25, d25, c26, ne_eq, not_true_eq_false, not_false_eq_true, and_true, true_and, and_false, false_and, or_true, true_or, or_false, false_or, and_self, or_self, decide_eq_true_eq, ↓reduceIte]; rfl) | (simp [fl, mMa, c1, d1, c2, d2, c3, d3, c25, d25, c26]; done) | (simp only [fl, mMa, c1, d1, c2, d2, c3, d3, c25, d25, c26, ne_eq, not_true_eq_false, not_false_eq_true, and_true, true_and, and_false, false_and, or_true, true_or, or_false, false_or, and_self, or_self, decide_eq_true_eq, ↓reduceIte])) ls (lv_sub hl [0, 1, 2, 3] rfl)
        exact loop52 (g 5) 0 (by omega) _ (by first | rfl | first | rfl | (simp only [fl, mMa, c1, d1, c2, d2, c3, d3, ne_eq, not_true_eq_false, not_false_eq_true, and_true, true_and, and_false, false_and, or_true, true_or, or_false, false_or, and_self, or_self, decide_eq_true_eq, ↓reduceIte]; done) | (simp only [fl, mMa, c1, d1, c2, d2, c3, d3, ne_eq, not_true_eq_false, not_false_eq_true, and_true, true_and, and_false, false_and, or_true, true_or, or_false, false_or, and_self, or_self, decide_eq_true_eq, ↓reduceIte]; rfl) | (simp [fl, mMa, c1, d1, c2, d2, c3, d3]; done) | (simp only [fl, mMa, c1, d1, c2, d2, c3, d3, ne_eq, not_true_eq_false, not_false_eq_true, and_true, true_and, and_false, false_and, or_true, true_or, or_false, false_or, and_self, or_self, decide_eq_true_eq, ↓reduceIte])) ls (lv_sub hl [0, 1, 2, 3] rfl)
      · have d3 := Int32.not_le.mp c3
        refine lv_aload_n hx hb dX11_manyNow_38 rfl (lv_at hl 0 rfl) ?_
        refine rd_get (own := RX11) (x := .ref (B 2)) S hG.1 iX11 (mP_0 hM) 6 rfl (by decide) w7 rfl dX11_manyNow_39 ?_
        refine lv_iload_n hx hb dX11_manyNow_42 rfl (lv_at hl 1 rfl) ?_
        refine lv_bipush (v := 9) hx hb dX11_manyNow_43 (by decide) ?_
        refine lv_isub hx hb dX11_manyNow_45 ?_
        have hlo : 8 < k := (nI_ltI (a := 8) (by decide) (by omega)).mp (Int32.not_le.mp c3)
        have hhi := cle c2 (n := 11) (by omega) (by decide)
        refine W.eq (g2 := F0 mZ 46 ls [.int (nI (k - 9)), .ref (B 2)]) (congrArg (fun z => F0 mZ 46 ls [Value.int z, .ref (B 2)]) (show nI k - nI 9 = nI (k - 9) from pk_sub (by omega))) ?_
        refine rd_iald S hG.1 (mP_2 hM) (vp_in_nI (by omega) (by decide)) dX11_manyNow_46 ?_
        refine W.eq (g2 := F0 mZ 47 ls [.int (f 16 (k - 9))]) (by rw [nI_clamp (n := (k - 9)) (by omega)]) ?_
        exact mw_iret S hr hlk hS ⟨by show 0 ≤ 1; omega, by show 0 ≤ 9; omega⟩ dX11_manyNow_47 ⟨congrArg (fun z => some (Value.int z)) (by exact (mMa_c (by omega) (by omega)).symm), ext_of hS⟩
    · have d2 := Int32.not_le.mp c2
      refine lv_aload_n hx hb dX11_manyNow_22 rfl (lv_at hl 0 rfl) ?_
      refine rd_get (own := RX11) (x := .ref (B 3)) S hG.1 iX11 (mP_0 hM) 9 rfl (by decide) w8 rfl dX11_manyNow_23 ?_
      refine lv_iload_n hx hb dX11_manyNow_26 rfl (lv_at hl 1 rfl) ?_
      refine lv_bipush (v := 12) hx hb dX11_manyNow_27 (by decide) ?_
      refine lv_isub hx hb dX11_manyNow_29 ?_
      have hlo : 11 < k := (nI_ltI (a := 11) (by decide) (by omega)).mp (Int32.not_le.mp c2)
      have hhi := cle c1 (n := 15) (by omega) (by decide)
      refine W.eq (g2 := F0 mZ 30 ls [.int (nI (k - 12)), .ref (B 3)]) (congrArg (fun z => F0 mZ 30 ls [Value.int z, .ref (B 3)]) (show nI k - nI 12 = nI (k - 12) from pk_sub (by omega))) ?_
      refine rd_iald S hG.1 (mP_3 hM) (vp_in_nI (by omega) (by decide)) dX11_manyNow_30 ?_
      refine W.eq (g2 := F0 mZ 31 ls [.int (f 28 (k - 12))]) (by rw [nI_clamp (n := (k - 12)) (by omega)]) ?_
      exact mw_iret S hr hlk hS ⟨by show 0 ≤ 1; omega, by show 0 ≤ 9; omega⟩ dX11_manyNow_31 ⟨congrArg (fun z => some (Value.int z)) (by exact (mMa_b (by omega) (by omega)).symm), ext_of hS⟩
  · have d1 := Int32.not_le.mp c1
    refine lv_aload_n hx hb dX11_manyNow_6 rfl (lv_at hl 0 rfl) ?_
    refine rd_get (own := RX11) (x := .ref (B 4)) S hG.1 iX11 (mP_0 hM) 10 rfl (by decide) w9 rfl dX11_manyNow_7 ?_
    refine lv_iload_n hx hb dX11_manyNow_10 rfl (lv_at hl 1 rfl) ?_
    refine lv_bipush (v := 16) hx hb dX11_manyNow_11 (by decide) ?_
    refine lv_isub hx hb dX11_manyNow_13 ?_
    have hlo : 15 < k := (nI_ltI (a := 15) (by decide) (by omega)).mp (Int32.not_le.mp c1)
    refine W.eq (g2 := F0 mZ 14 ls [.int (nI (k - 16)), .ref (B 4)]) (congrArg (fun z => F0 mZ 14 ls [Value.int z, .ref (B 4)]) (show nI k - nI 16 = nI (k - 16) from pk_sub (by omega))) ?_
    refine rd_iald S hG.1 (mP_4 hM) (vp_in_nI (by omega) (by decide)) dX11_manyNow_14 ?_
    refine W.eq (g2 := F0 mZ 15 ls [.int (f 29 (k - 16))]) (by rw [nI_clamp (n := (k - 16)) (by omega)]) ?_
    exact mw_iret S hr hlk hS ⟨by show 0 ≤ 1; omega, by show 0 ≤ 9; omega⟩ dX11_manyNow_15 ⟨congrArg (fun z => some (Value.int z)) (by exact (mMa_a (by omega)).symm), ext_of hS⟩

