/-! how many bits are set; amendments; days that pass -/
def us (x k : Int32) : Int32 := (x.toUInt32 >>> (k.toUInt32 &&& Int32.toUInt32 31)).toInt32
def bc1 (x : Int32) : Int32 := x - (us x 1 &&& 1431655765)
def bc2 (x : Int32) : Int32 := (x &&& 858993459) + (us x 2 &&& 858993459)
def bc3 (x : Int32) : Int32 := (x + us x 4) &&& 252645135
def bc4 (x : Int32) : Int32 := x + us x 8
def bc5 (x : Int32) : Int32 := x + us x 16
def bcI (x : Int32) : Int32 := bc5 (bc4 (bc3 (bc2 (bc1 x)))) &&& 63
theorem bcI_n (x : Int32) : bcI x = nI (cnt (bcI x)) ∧ cnt (bcI x) < 64 := by
  obtain ⟨j, hj, e⟩ := pk_andE (bc5 (bc4 (bc3 (bc2 (bc1 x))))) (m := 63) 6 (by decide)
  have e2 : bcI x = nI j := e
  rw [e2, cnt_nI (by omega)]
  exact ⟨rfl, hj⟩
def frN (g : Nat → Nat) : Nat := (g 0 + 41) / 28 * 28
theorem frN_le {g : Nat → Nat} (h : g 0 ≤ 399) : frN g ≤ 440 := by unfold frN; omega
theorem fr_eq {g : Nat → Nat} (h : g 0 ≤ 399) : ((nI (g 0) + 14 + 28 - 1) / 28) * 28 = nI (frN g) := by
  show ((nI (g 0) + nI 14 + nI 28 - nI 1) / nI 28) * nI 28 = _
  rw [nI_add, nI_add, pk_sub (by omega), pk_div (by omega) (by decide) (by decide), pk_mul, show g 0 + 14 + 28 - 1 = g 0 + 41 by omega]
  rfl
def amH (f : Nat → Nat → Int32) (g : Nat → Nat) (p : Int32) : Int32 := fl (min 28 (400 - frN g)) (fun j h => imax h (lH f g p (nI (frN g + j)) (-1))) 0
theorem gset_0 (g : Nat → Nat) : gset g 0 (g 0) = g := by
  funext j; unfold gset; split
  · rename_i h; rw [h]
  · rfl
theorem gset_s (g : Nat → Nat) (a b : Nat) : gset (gset g 0 a) 0 b = gset g 0 b := by
  funext j; unfold gset; split <;> simp [*]
def psT (f : Nat → Nat → Int32) (g : Nat → Nat) (n : Nat) : Nat := fl n (fun j t => t + cnt (bcI (uSet f (gset g 0 (g 0 + (j + 1)))))) 0
theorem psT_le (f : Nat → Nat → Int32) (g : Nat → Nat) : ∀ n, psT f g n ≤ 63 * n
  | 0 => Nat.le_refl _
  | n + 1 => by
    have h := psT_le f g n
    have h2 := (bcI_n (uSet f (gset g 0 (g 0 + (n + 1))))).2
    show psT f g n + cnt (bcI (uSet f (gset g 0 (g 0 + (n + 1))))) ≤ _
    omega
theorem psT_s (f : Nat → Nat → Int32) (g : Nat → Nat) (n : Nat) : nI (psT f g n) + bcI (uSet f (gset g 0 (g 0 + (n + 1)))) = nI (psT f g (n + 1)) := by
  rw [(bcI_n (uSet f (gset g 0 (g 0 + (n + 1))))).1, nI_add]
  rfl
theorem nmJ6_bitCount_0f7a4 : nmV yJ6_bitCount_0f7a4 RJ6 1 := by decide +kernel
set_option maxHeartbeats 1000000 in
set_option maxRecDepth 100000 in
theorem c_J6_bitCount_0f7a4 (l : Launch) (G : GT) (H : Heap) (x : Int32) : RdV l G H yJ6_bitCount_0f7a4 wsJ6_bitCount_0f7a4 { frames := 0, cells := 0, slots := 0, locals := 0 } [.int x] (some (.int (bcI x))) := by
  refine rd_of (cc := cJ6_bitCount_0f7a4) (maxL := 1) (ret := (some .int)) (by decide) rfl (Nat.le_of_ble_eq_true rfl) ?_
  intro pZ eZ sZ mZ bZ meZ cZ ls S hr hlk hl hH hG
  have S : CallFix pZ mZ cZ cJ6_bitCount_0f7a4 1 sZ _ wsJ6_bitCount_0f7a4 RJ6 := S
  have hx := S.1
  have hb := S.2.1
  have hown := S.2.2.2.1
  have hts := S.2.2.2.2
  have hl : lv_has ls 1 [(0, .int x)] := hl
  have w0 := hts (.constant RJ6 265 (1431655765)) (by decide +kernel)
  have w1 := hts (.constant RJ6 266 (858993459)) (by decide +kernel)
  have w2 := hts (.constant RJ6 267 (252645135)) (by decide +kernel)
  refine lv_iload_n hx hb dJ6_bitCount_0f7a4_0 rfl (lv_at hl 0 rfl) ?_
  refine lv_iload_n hx hb dJ6_bitCount_0f7a4_1 rfl (lv_at hl 0 rfl) ?_
  refine lv_iconst (v := 1) hx hb dJ6_bitCount_0f7a4_2 (by decide) ?_
  refine lv_iushr (v := (x.toUInt32 >>> ((1 : Int32).toUInt32 &&& Int32.toUInt32 31)).toInt32) hx hb dJ6_bitCount_0f7a4_3 rfl ?_
  refine lv_ldcw (own := RJ6) (v := 1431655765) hx hb hown w0 dJ6_bitCount_0f7a4_4 ?_
  refine lv_iand hx hb dJ6_bitCount_0f7a4_7 ?_
  refine lv_isub hx hb dJ6_bitCount_0f7a4_8 ?_
  refine lv_topi (fun x1 ex1 => ?_)
  refine lv_istore_n (lv' := [(0, .int x1)]) hx hb dJ6_bitCount_0f7a4_9 rfl hl (by decide) rfl (fun ls hl => ?_)
  refine lv_iload_n hx hb dJ6_bitCount_0f7a4_10 rfl (lv_at hl 0 rfl) ?_
  refine lv_ldcw (own := RJ6) (v := 858993459) hx hb hown w1 dJ6_bitCount_0f7a4_11 ?_
  refine lv_iand hx hb dJ6_bitCount_0f7a4_14 ?_
  refine lv_iload_n hx hb dJ6_bitCount_0f7a4_15 rfl (lv_at hl 0 rfl) ?_
  refine lv_iconst (v := 2) hx hb dJ6_bitCount_0f7a4_16 (by decide) ?_
  refine lv_iushr (v := (x1.toUInt32 >>> ((2 : Int32).toUInt32 &&& Int32.toUInt32 31)).toInt32) hx hb dJ6_bitCount_0f7a4_17 rfl ?_
  refine lv_ldcw (own := RJ6) (v := 858993459) hx hb hown w1 dJ6_bitCount_0f7a4_18 ?_
  refine lv_iand hx hb dJ6_bitCount_0f7a4_21 ?_
  refine lv_iadd hx hb dJ6_bitCount_0f7a4_22 ?_
  refine lv_topi (fun x2 ex2 => ?_)
  refine lv_istore_n (lv' := [(0, .int x2)]) hx hb dJ6_bitCount_0f7a4_23 rfl hl (by decide) rfl (fun ls hl => ?_)
  refine lv_iload_n hx hb dJ6_bitCount_0f7a4_24 rfl (lv_at hl 0 rfl) ?_
  refine lv_iload_n hx hb dJ6_bitCount_0f7a4_25 rfl (lv_at hl 0 rfl) ?_
  refine lv_iconst (v := 4) hx hb dJ6_bitCount_0f7a4_26 (by decide) ?_
  refine lv_iushr (v := (x2.toUInt32 >>> ((4 : Int32).toUInt32 &&& Int32.toUInt32 31)).toInt32) hx hb dJ6_bitCount_0f7a4_27 rfl ?_
  refine lv_iadd hx hb dJ6_bitCount_0f7a4_28 ?_
  refine lv_ldcw (own := RJ6) (v := 252645135) hx hb hown w2 dJ6_bitCount_0f7a4_29 ?_
  refine lv_iand hx hb dJ6_bitCount_0f7a4_32 ?_
  refine lv_topi (fun x3 ex3 => ?_)
  refine lv_istore_n (lv' := [(0, .int x3)]) hx hb dJ6_bitCount_0f7a4_33 rfl hl (by decide) rfl (fun ls hl => ?_)
  refine lv_iload_n hx hb dJ6_bitCount_0f7a4_34 rfl (lv_at hl 0 rfl) ?_
  refine lv_iload_n hx hb dJ6_bitCount_0f7a4_35 rfl (lv_at hl 0 rfl) ?_
  refine lv_bipush (v := 8) hx hb dJ6_bitCount_0f7a4_36 (by decide) ?_
  refine lv_iushr (v := (x3.toUInt32 >>> ((8 : Int32).toUInt32 &&& Int32.toUInt32 31)).toInt32) hx hb dJ6_bitCount_0f7a4_38 rfl ?_
  refine lv_iadd hx hb dJ6_bitCount_0f7a4_39 ?_
  refine lv_topi (fun x4 ex4 => ?_)
  refine lv_istore_n (lv' := [(0, .int x4)]) hx hb dJ6_bitCount_0f7a4_40 rfl hl (by decide) rfl (fun ls hl => ?_)
  refine lv_iload_n hx hb dJ6_bitCount_0f7a4_41 rfl (lv_at hl 0 rfl) ?_
  refine lv_iload_n hx hb dJ6_bitCount_0f7a4_42 rfl (lv_at hl 0 rfl) ?_
  refine lv_bipush (v := 16) hx hb dJ6_bitCount_0f7a4_43 (by decide) ?_
  refine lv_iushr (v := (x4.toUInt32 >>> ((16 : Int32).toUInt32 &&& Int32.toUInt32 31)).toInt32) hx hb dJ6_bitCount_0f7a4_45 rfl ?_
  refine lv_iadd hx hb dJ6_bitCount_0f7a4_46 ?_
  refine lv_topi (fun x5 ex5 => ?_)
  refine lv_istore_n (lv' := [(0, .int x5)]) hx hb dJ6_bitCount_0f7a4_47 rfl hl (by decide) rfl (fun ls hl => ?_)
  refine lv_iload_n hx hb dJ6_bitCount_0f7a4_48 rfl (lv_at hl 0 rfl) ?_
  refine lv_bipush (v := 63) hx hb dJ6_bitCount_0f7a4_49 (by decide) ?_
  refine lv_iand hx hb dJ6_bitCount_0f7a4_51 ?_
  exact rd_iret S hr hlk dJ6_bitCount_0f7a4_52 (congrArg (fun z => some (Value.int z)) (by subst ex5; subst ex4; subst ex3; subst ex2; subst ex1; rfl))
