/-! the digest of the reference -/
theorem rd_lret {p : Program} {l : Launch} {e : Env} {R : Room} {s : State} {m : MethodId} {below : List Frame} {meth : Method} {c : Code} {H : Heap} {Ts : List Cond} {cc : ByteArray} {nL pc : Nat} {own : String} {ls : Array Slot} {v : Option Value} {av : List Value} {x : Int64} (S : CallFix p m c cc nL s av.toArray Ts own) (hr : meth.sig.returnType = some .long) (hlocks : meth.locks = false) (hdg : decode cc pc = .ok (.lreturn, 1)) (hv : v = some (.long x)) :
    W p l e R s m av.toArray below meth c H [] 0 0 (rd_Q below H av s v) (F0 m pc ls [.long x]) :=
  W.lret S.1 S.2.1 hr (fun t ht _ => ⟨by rw [hv], ht⟩) (fun _ h => nomatch h) hdg hlocks
def md1 (f : Nat → Nat → Int32) (g : Nat → Nat) : Int64 := fl 20 (fun j d => sd d (mMa f g j)) 4815
def md2 (f : Nat → Nat → Int32) (g : Nat → Nat) : Int64 := fl (g 1) (fun i d => fl 5 (fun w d => sd d (mOb f i (nI w))) d) (md1 f g)
def md3P (f : Nat → Nat → Int32) (g : Nat → Nat) (p : Nat) (d : Int64) : Int64 := sd (sd (sd (sd (sd (sd (sd d (mLH f g p (nI (g 0)) (-1))) (mIF f g p (nI (g 0)))) (mCh f g p (nI (g 0)))) (mCh f g p 399)) (mDc f g p (nI (g 0)))) (mUL f g p (400 - g 0) 0)) (mRF f g p)
def md3 (f : Nat → Nat → Int32) (g : Nat → Nat) : Int64 := fl (g 3) (fun p d => md3P f g p d) (md2 f g)
def md4 (f : Nat → Nat → Int32) (g : Nat → Nat) : Int64 := fl (g 5) (fun i d => fl 6 (fun w d => sd d (mOn f g i (nI w))) d) (md3 f g)
def md5 (f : Nat → Nat → Int32) (g : Nat → Nat) : Int64 := fl 4 (fun c d => fl (g 3) (fun p d => sd d (fCat (mBl f g c p (nI (g 0))) 1)) (sd d (mMi f g c))) (md4 f g)
theorem nmX11_add : nmV yX11_add RX11 2 := by decide +kernel

set_option maxHeartbeats 1000000 in
set_option maxRecDepth 100000 in
theorem c_X11_add (l : Launch) (G : GT) (H : Heap) (x y : Int64) : RdV l G H yX11_add wsX11_add { frames := 0, cells := 0, slots := 0, locals := 0 } [.long x, .long y] (some (.long (x * 31 + y))) := by
  refine rd_of (cc := cX11_add) (maxL := 4) (ret := (some .long)) (by decide) rfl (Nat.le_of_ble_eq_true rfl) ?_
  intro pZ eZ sZ mZ bZ meZ cZ ls S hr hlk hl hHs hG
  have S : CallFix pZ mZ cZ cX11_add 4 sZ _ wsX11_add RX11 := S
  have hx := S.1
  have hb := S.2.1
  have hown := S.2.2.2.1
  have hts := S.2.2.2.2
  have hl : lv_has ls 4 [(0, .long x), (2, .long y)] := hl
  have w0 := hts (.constantLong RX11 250 (31)) (by decide +kernel)
  refine lv_lload_n hx hb dX11_add_0 rfl (lv_at hl 0 rfl) ?_
  refine lv_ldc2 (own := RX11) (v := 31) hx hb hown w0 dX11_add_1 ?_
  refine lv_lmul hx hb dX11_add_4 ?_
  refine lv_lload_n hx hb dX11_add_5 rfl (lv_at hl 1 rfl) ?_
  refine lv_ladd hx hb dX11_add_6 ?_
  exact rd_lret S hr hlk dX11_add_7 (congrArg (fun z => some (Value.long z)) (by first | rfl | (simp only [true_and, ne_eq, not_true_eq_false, not_false_eq_true, and_true, true_and, and_false, false_and, or_true, true_or, or_false, false_or, and_self, or_self, decide_eq_true_eq, ↓reduceIte]; done) | (simp [true_and]; done) | (simp only [true_and, ne_eq, not_true_eq_false, not_false_eq_true, and_true, true_and, and_false, false_and, or_true, true_or, or_false, false_or, and_self, or_self, decide_eq_true_eq, ↓reduceIte])))

theorem nmX11_digest : nmV yX11_digest RX11 0 := by decide +kernel

set_option maxHeartbeats 1000000 in
set_option maxRecDepth 100000 in
theorem c_X11_digest (l : Launch) (G : GT) (B : Nat → Nat) (th : Int32) (mc : Nat → Int32) (cp : Nat → Nat) (f : Nat → Nat → Int32) (g : Nat → Nat) (H : Heap) (hM : MP G B th mc cp f g H) (D : Nat → Prop) (hD : DP G D H.size) (hB : DB D B cp g) (hrd : ∀ c, c < 4 → f 29 c = nI (cnt (f 29 c)) ∧ cnt (f 29 c) ≤ g 5) : MwV l G D H yX11_digest wsX11_digest { frames := 8, cells := 20, slots := 180, locals := 190 } [.ref (B 0)] 20 180 (fun v t => v = some (.long (md5 f g)) ∧ MP G B 0 mc cp f g t) := by
  refine mw_of (cc := cX11_digest) (maxL := 5) (ret := (some .long)) (by decide) rfl (Nat.le_of_ble_eq_true rfl) ?_
  intro pZ eZ sZ mZ bZ meZ cZ ls S hr hlk hl hHs hG hGX
  have S : CallFix pZ mZ cZ cX11_digest 5 sZ _ wsX11_digest RX11 := S
  have hx := S.1
  have hb := S.2.1
  have hown := S.2.2.2.1
  have hts := S.2.2.2.2
  have hl : lv_has ls 5 [(0, .ref (B 0))] := hl
  have w0 := hts (.fieldLink RX11 35 "MinimaRoomModel" "thrown" "I") (by decide +kernel)
  have w1 := hts (.constantLong RX11 252 (4815)) (by decide +kernel)
  have w2 := hts (.fieldLink RX11 10 "MinimaRoomModel" "obstacles" "Ljava/util/ArrayList;") (by decide +kernel)
  have w3 := hts (.fieldLink RX11 23 "MinimaRoomModel" "procedures" "Ljava/util/ArrayList;") (by decide +kernel)
  have w4 := hts (.fieldLink RX11 26 "MinimaRoomModel" "notices" "Ljava/util/ArrayList;") (by decide +kernel)
  have w5 := hts (.fieldLink RX11 156 "MinimaRoomModel" "now" "I") (by decide +kernel)
  have w6 := hts (.classLink RX11 59 "MinimaRoomModel$Procedure") (by decide +kernel)
  have iX11 : ∀ w ∈ u_ws RX11 TX11 11, w ∈ wsX11_digest := by decide +kernel
  have hS : va_S D H H [] := va_S.rf
  have hI := hM.1
  have hgb := hI.1.1
  have hg0 := hI.1.2.1
  have hg1 := hI.1.2.2.1
  have hg3 := hI.1.2.2.2.1
  have hg4 := hI.1.2.2.2.2.1
  have hg5 := hI.1.2.2.2.2.2
  refine lv_aload_n hx hb dX11_digest_0 rfl (lv_at hl 0 rfl) ?_
  refine lv_iconst (v := 0) hx hb dX11_digest_1 (by decide) ?_
  refine mw_putf (ty := .int) S hD hG hS (hB.1 _ (Or.inl (by decide) : mD cp g 0)) iX11 tyX11 tyX11_ok nmX11 (mP_0 hM) 0 rfl (by decide) w0 rfl (by decide +kernel) rfl rfl (Nat.le_of_ble_eq_true rfl) dX11_digest_2 (fun H1 locs1 hn1 hz1 hq1 hS1 hG1 => ?_)
  have hM1 : MP G B 0 mc cp f g H1 := mp_one hM hB (Or.inl (by decide) : mD cp g 0) hn1 hq1 (fun j _ hj => mC_0 hj) hM.1 (fun _ h => h)
  refine lv_ldc2 (own := RX11) (v := 4815) hx hb hown w1 dX11_digest_5 ?_
  refine lv_lstore_n (lv' := [(1, .long 4815), (0, .ref (B 0))]) hx hb dX11_digest_8 rfl hl (by decide) rfl (fun ls hl => ?_)
  refine lv_iconst (v := 0) hx hb dX11_digest_9 (by decide) ?_
  refine lv_istore_n (lv' := [(3, .int 0), (1, .long 4815), (0, .ref (B 0))]) hx hb dX11_digest_10 rfl hl (by decide) rfl (fun ls hl => ?_)
  have loop11 : ∀ (n11 k11 : Nat), k11 + n11 = 20 → ∀ (z11_1 : Int64), z11_1 = fl k11 (fun j d => sd d (mMa f g j)) 4815 → ∀ (H2 : Heap) (locs2 : List Loc), va_S D H H2 locs2 → MP G B 0 mc cp f g H2 → GK G H2 sZ → ∀ (ls : Array Slot), lv_has ls 5 [(3, .int (nI k11)), (1, .long z11_1), (0, .ref (B 0))] → W pZ l eZ ({ frames := 8, cells := 20, slots := 180, locals := 190 } : Room) sZ mZ ([.ref (B 0)] : List Value).toArray bZ meZ cZ H2 locs2 k11 (9 * k11) (mw_Q bZ D H [.ref (B 0)] sZ 20 180 (fun v t => v = some (.long (md5 f g)) ∧ MP G B 0 mc cp f g t)) (F0 mZ 11 ls []) := by
    intro n11
    induction n11 with
    | zero =>
      intro k11 hk11 z11_1 ez11_1 H2 locs2 hS2 hM2 hG2 ls hl
      obtain rfl : k11 = 20 := by omega
      refine lv_iload_n hx hb dX11_digest_11 rfl (lv_at hl 0 rfl) ?_
      refine lv_bipush (v := 20) hx hb dX11_digest_12 (by decide) ?_
      refine lv_icmp_ge (tgt := 34) hx hb dX11_digest_14 (by decide) (fun c3 => ?_) (fun c3 => ?_)
      · have d3 := Int32.not_lt.mpr c3
        refine lv_iconst (v := 0) hx hb dX11_digest_34 (by decide) ?_
        refine lv_istore_n (lv' := [(3, .int 0), (1, .long z11_1), (0, .ref (B 0))]) hx hb dX11_digest_35 rfl hl (by decide) rfl (fun ls hl => ?_)
        have loop36 : ∀ (n36 k36 : Nat), k36 + n36 = g 1 → ∀ (z36_1 : Int64), z36_1 = fl k36 (fun i d => fl 5 (fun w d => sd d (mOb f i (nI w))) d) (md1 f g) → ∀ (ls : Array Slot), lv_has ls 5 [(3, .int (nI k36)), (1, .long z36_1), (0, .ref (B 0))] → W pZ l eZ ({ frames := 8, cells := 20, slots := 180, locals := 190 } : Room) sZ mZ ([.ref (B 0)] : List Value).toArray bZ meZ cZ H2 locs2 20 (9 * 20) (mw_Q bZ D H [.ref (B 0)] sZ 20 180 (fun v t => v = some (.long (md5 f g)) ∧ MP G B 0 mc cp f g t)) (F0 mZ 36 ls []) := by
          intro n36
          induction n36 with
          | zero =>
            intro k36 hk36 z36_1 ez36_1 ls hl
            obtain rfl : k36 = g 1 := by omega
            refine lv_iload_n hx hb dX11_digest_36 rfl (lv_at hl 0 rfl) ?_
            refine lv_aload_n hx hb dX11_digest_37 rfl (lv_at hl 2 rfl) ?_
            refine rd_get (own := RX11) (x := .ref (B 5)) S hG2.1 iX11 (mP_0 hM2) 4 rfl (by decide) w2 rfl dX11_digest_38 ?_
            refine rd_V (As := []) (rest := [.int (nI (g 1))]) (v := some (.int (nI (g 1)))) S hG2 (c_Jx4a65c_size_8abf5 l G H2 (B 5) (eA G B cp 5 8) (mc 5) (nI (g 1)) (mP_5 hM2)) gX11_digest_Jx4a65c_size_8abf5 rfl ⟨rfl, rfl⟩ nmJx4a65c_size_8abf5 ⟨Nat.le_of_ble_eq_true rfl, Nat.le_of_ble_eq_true rfl⟩ (rd_rcv hG2.1 (mP_5 hM2) rfl) rfl hl.1 rfl (Nat.le_of_ble_eq_true rfl) ⟨by show 20 ≤ 20; omega, by show 9 * 20 ≤ 180; omega⟩ dX11_digest_41 ?_
            refine W.eq (g2 := F0 mZ 44 ls [.int (nI (g 1)), .int (nI (g 1))]) rfl ?_
            refine lv_icmp_ge (tgt := 81) hx hb dX11_digest_44 (by decide) (fun c4 => ?_) (fun c4 => ?_)
            · have d4 := Int32.not_lt.mpr c4
              refine lv_iconst (v := 0) hx hb dX11_digest_81 (by decide) ?_
              refine lv_istore_n (lv' := [(3, .int 0), (1, .long z36_1), (0, .ref (B 0))]) hx hb dX11_digest_82 rfl hl (by decide) rfl (fun ls hl => ?_)
              have loop83 : ∀ (n83 k83 : Nat), k83 + n83 = g 3 → ∀ (z83_1 : Int64), z83_1 = fl k83 (fun p d => md3P f g p d) (md2 f g) → ∀ (ls : Array Slot), lv_has ls 5 [(3, .int (nI k83)), (1, .long z83_1), (0, .ref (B 0))] → W pZ l eZ ({ frames := 8, cells := 20, slots := 180, locals := 190 } : Room) sZ mZ ([.ref (B 0)] : List Value).toArray bZ meZ cZ H2 locs2 20 (9 * 20) (mw_Q bZ D H [.ref (B 0)] sZ 20 180 (fun v t => v = some (.long (md5 f g)) ∧ MP G B 0 mc cp f g t)) (F0 mZ 83 ls []) := by
                intro n83
                induction n83 with
                | zero =>
                  intro k83 hk83 z83_1 ez83_1 ls hl
                  obtain rfl : k83 = g 3 := by omega
                  refine lv_iload_n hx hb dX11_digest_83 rfl (lv_at hl 0 rfl) ?_
                  refine lv_aload_n hx hb dX11_digest_84 rfl (lv_at hl 2 rfl) ?_
                  refine rd_get (own := RX11) (x := .ref (B 6)) S hG2.1 iX11 (mP_0 hM2) 7 rfl (by decide) w3 rfl dX11_digest_85 ?_
                  refine rd_V (As := []) (rest := [.int (nI (g 3))]) (v := some (.int (nI (g 3)))) S hG2 (c_Jx4a65c_size_8abf5 l G H2 (B 6) (eA G B cp 6 9) (mc 6) (nI (g 3)) (mP_6 hM2)) gX11_digest_Jx4a65c_size_8abf5 rfl ⟨rfl, rfl⟩ nmJx4a65c_size_8abf5 ⟨Nat.le_of_ble_eq_true rfl, Nat.le_of_ble_eq_true rfl⟩ (rd_rcv hG2.1 (mP_6 hM2) rfl) rfl hl.1 rfl (Nat.le_of_ble_eq_true rfl) ⟨by show 20 ≤ 20; omega, by show 9 * 20 ≤ 180; omega⟩ dX11_digest_88 ?_
                  refine W.eq (g2 := F0 mZ 91 ls [.int (nI (g 3)), .int (nI (g 3))]) rfl ?_
                  refine lv_icmp_ge (tgt := 206) hx hb dX11_digest_91 (by decide) (fun c5 => ?_) (fun c5 => ?_)
                  · have d5 := Int32.not_lt.mpr c5
                    refine lv_iconst (v := 0) hx hb dX11_digest_206 (by decide) ?_
                    refine lv_istore_n (lv' := [(3, .int 0), (1, .long z83_1), (0, .ref (B 0))]) hx hb dX11_digest_207 rfl hl (by decide) rfl (fun ls hl => ?_)
                    have loop208 : ∀ (n208 k208 : Nat), k208 + n208 = g 5 → ∀ (z208_1 : Int64), z208_1 = fl k208 (fun i d => fl 6 (fun w d => sd d (mOn f g i (nI w))) d) (md3 f g) → ∀ (ls : Array Slot), lv_has ls 5 [(3, .int (nI k208)), (1, .long z208_1), (0, .ref (B 0))] → W pZ l eZ ({ frames := 8, cells := 20, slots := 180, locals := 190 } : Room) sZ mZ ([.ref (B 0)] : List Value).toArray bZ meZ cZ H2 locs2 20 (9 * 20) (mw_Q bZ D H [.ref (B 0)] sZ 20 180 (fun v t => v = some (.long (md5 f g)) ∧ MP G B 0 mc cp f g t)) (F0 mZ 208 ls []) := by
                      intro n208
                      induction n208 with
                      | zero =>
                        intro k208 hk208 z208_1 ez208_1 ls hl
                        obtain rfl : k208 = g 5 := by omega
                        refine lv_iload_n hx hb dX11_digest_208 rfl (lv_at hl 0 rfl) ?_
                        refine lv_aload_n hx hb dX11_digest_209 rfl (lv_at hl 2 rfl) ?_
                        refine rd_get (own := RX11) (x := .ref (B 7)) S hG2.1 iX11 (mP_0 hM2) 8 rfl (by decide) w4 rfl dX11_digest_210 ?_
                        refine rd_V (As := []) (rest := [.int (nI (g 5))]) (v := some (.int (nI (g 5)))) S hG2 (c_Jx4a65c_size_8abf5 l G H2 (B 7) (eA G B cp 7 10) (mc 7) (nI (g 5)) (mP_7 hM2)) gX11_digest_Jx4a65c_size_8abf5 rfl ⟨rfl, rfl⟩ nmJx4a65c_size_8abf5 ⟨Nat.le_of_ble_eq_true rfl, Nat.le_of_ble_eq_true rfl⟩ (rd_rcv hG2.1 (mP_7 hM2) rfl) rfl hl.1 rfl (Nat.le_of_ble_eq_true rfl) ⟨by show 20 ≤ 20; omega, by show 9 * 20 ≤ 180; omega⟩ dX11_digest_213 ?_
                        refine W.eq (g2 := F0 mZ 216 ls [.int (nI (g 5)), .int (nI (g 5))]) rfl ?_
                        refine lv_icmp_ge (tgt := 254) hx hb dX11_digest_216 (by decide) (fun c6 => ?_) (fun c6 => ?_)
                        · have d6 := Int32.not_lt.mpr c6
                          refine lv_iconst (v := 0) hx hb dX11_digest_254 (by decide) ?_
                          refine lv_istore_n (lv' := [(3, .int 0), (1, .long z208_1), (0, .ref (B 0))]) hx hb dX11_digest_255 rfl hl (by decide) rfl (fun ls hl => ?_)
                          have loop256 : ∀ (n256 k256 : Nat), k256 + n256 = 4 → ∀ (z256_1 : Int64), z256_1 = fl k256 (fun c d => fl (g 3) (fun p d => sd d (fCat (mBl f g c p (nI (g 0))) 1)) (sd d (mMi f g c))) (md4 f g) → ∀ (ls : Array Slot), lv_has ls 5 [(3, .int (nI k256)), (1, .long z256_1), (0, .ref (B 0))] → W pZ l eZ ({ frames := 8, cells := 20, slots := 180, locals := 190 } : Room) sZ mZ ([.ref (B 0)] : List Value).toArray bZ meZ cZ H2 locs2 20 (9 * 20) (mw_Q bZ D H [.ref (B 0)] sZ 20 180 (fun v t => v = some (.long (md5 f g)) ∧ MP G B 0 mc cp f g t)) (F0 mZ 256 ls []) := by
                            intro n256
                            induction n256 with
                            | zero =>
                              intro k256 hk256 z256_1 ez256_1 ls hl
                              obtain rfl : k256 = 4 := by omega
                              refine lv_iload_n hx hb dX11_digest_256 rfl (lv_at hl 0 rfl) ?_
                              refine lv_iconst (v := 4) hx hb dX11_digest_257 (by decide) ?_
                              refine lv_icmp_ge (tgt := 320) hx hb dX11_digest_258 (by decide) (fun c7 => ?_) (fun c7 => ?_)
                              · have d7 := Int32.not_lt.mpr c7
                                refine lv_lload_n hx hb dX11_digest_320 rfl (lv_at hl 1 rfl) ?_
                                exact mw_lret S hr hlk hS2 ⟨by show 20 ≤ 20; omega, by show 9 * 20 ≤ 180; omega⟩ dX11_digest_321 ⟨congrArg (fun z => some (Value.long z)) (by subst ez256_1; subst ez208_1; subst ez83_1; subst ez36_1; subst ez11_1; rfl), hM2⟩
                              · have c7 : ¬ (nI 4 ≤ nI 4) := c7; exact absurd (nI_le (by omega) (by omega)) c7
                            | succ n256 ih256 =>
                              intro k256 hk256 z256_1 ez256_1 ls hl
                              refine lv_iload_n hx hb dX11_digest_256 rfl (lv_at hl 0 rfl) ?_
                              refine lv_iconst (v := 4) hx hb dX11_digest_257 (by decide) ?_
                              refine lv_icmp_ge (tgt := 320) hx hb dX11_digest_258 (by decide) (fun c8 => ?_) (fun c8 => ?_)
                              · have c8 : nI 4 ≤ nI k256 := c8; exact absurd c8 (nI_ge (by omega) (by omega))
                              · have d8 := Int32.not_le.mp c8
                                refine lv_lload_n hx hb dX11_digest_261 rfl (lv_at hl 1 rfl) ?_
                                refine lv_aload_n hx hb dX11_digest_262 rfl (lv_at hl 2 rfl) ?_
                                refine lv_iload_n hx hb dX11_digest_263 rfl (lv_at hl 0 rfl) ?_
                                refine rd_V (As := [.int (nI k256)]) (rest := [.long z256_1]) (v := some (.int (mMi f g k256))) S hG2 (c_X11_misledNow l G B 0 mc cp f g H2 hM2 k256 (by omega) hrd) gX11_digest_X11_misledNow rfl ⟨rfl, rfl⟩ nmX11_misledNow ⟨Nat.le_of_ble_eq_true rfl, Nat.le_of_ble_eq_true rfl⟩ (rd_rcv hG2.1 (mP_0 hM2) rfl) rfl hl.1 rfl (Nat.le_of_ble_eq_true rfl) ⟨by show 20 ≤ 20; omega, by show 9 * 20 ≤ 180; omega⟩ dX11_digest_264 ?_
                                refine W.eq (g2 := F0 mZ 267 ls [.int (mMi f g k256), .long z256_1]) rfl ?_
                                refine lv_i2l (v := (mMi f g k256).toInt64) hx hb dX11_digest_267 rfl ?_
                                refine rd_S (As := [.long z256_1, .long ((mMi f g k256).toInt64)]) (rest := []) (v := some (.long (sd z256_1 (mMi f g k256)))) S hG2 (c_X11_add l G H2 z256_1 ((mMi f g k256).toInt64)) gX11_digest_X11_add rfl ⟨rfl, rfl⟩ nmX11_add ⟨Nat.le_of_ble_eq_true rfl, Nat.le_of_ble_eq_true rfl⟩ rfl hl.1 rfl (Nat.le_of_ble_eq_true rfl) ⟨by show 20 ≤ 20; omega, by show 9 * 20 ≤ 180; omega⟩ dX11_digest_268 ?_
                                refine W.eq (g2 := F0 mZ 271 ls [.long (sd z256_1 (mMi f g k256))]) rfl ?_
                                refine lv_topl (fun x9 ex9 => ?_)
                                refine lv_lstore_n (lv' := [(1, .long x9), (3, .int (nI k256)), (0, .ref (B 0))]) hx hb dX11_digest_271 rfl hl (by decide) rfl (fun ls hl => ?_)
                                refine lv_iconst (v := 0) hx hb dX11_digest_272 (by decide) ?_
                                refine lv_istore (lv' := [(4, .int 0), (1, .long x9), (3, .int (nI k256)), (0, .ref (B 0))]) hx hb dX11_digest_273 hl (by decide) rfl (fun ls hl => ?_)
                                have loop275 : ∀ (n275 k275 : Nat), k275 + n275 = g 3 → ∀ (z275_1 : Int64), z275_1 = fl k275 (fun p d => sd d (fCat (mBl f g k256 p (nI (g 0))) 1)) (sd (fl k256 (fun c d => fl (g 3) (fun p d => sd d (fCat (mBl f g c p (nI (g 0))) 1)) (sd d (mMi f g c))) (md4 f g)) (mMi f g k256)) → ∀ (ls : Array Slot), lv_has ls 5 [(4, .int (nI k275)), (1, .long z275_1), (0, .ref (B 0)), (3, .int (nI k256))] → W pZ l eZ ({ frames := 8, cells := 20, slots := 180, locals := 190 } : Room) sZ mZ ([.ref (B 0)] : List Value).toArray bZ meZ cZ H2 locs2 20 (9 * 20) (mw_Q bZ D H [.ref (B 0)] sZ 20 180 (fun v t => v = some (.long (md5 f g)) ∧ MP G B 0 mc cp f g t)) (F0 mZ 275 ls []) := by
                                  intro n275
                                  induction n275 with
                                  | zero =>
                                    intro k275 hk275 z275_1 ez275_1 ls hl
                                    obtain rfl : k275 = g 3 := by omega
                                    refine lv_iload hx hb dX11_digest_275 (lv_at hl 0 rfl) ?_
                                    refine lv_aload_n hx hb dX11_digest_277 rfl (lv_at hl 2 rfl) ?_
                                    refine rd_get (own := RX11) (x := .ref (B 6)) S hG2.1 iX11 (mP_0 hM2) 7 rfl (by decide) w3 rfl dX11_digest_278 ?_
                                    refine rd_V (As := []) (rest := [.int (nI (g 3))]) (v := some (.int (nI (g 3)))) S hG2 (c_Jx4a65c_size_8abf5 l G H2 (B 6) (eA G B cp 6 9) (mc 6) (nI (g 3)) (mP_6 hM2)) gX11_digest_Jx4a65c_size_8abf5 rfl ⟨rfl, rfl⟩ nmJx4a65c_size_8abf5 ⟨Nat.le_of_ble_eq_true rfl, Nat.le_of_ble_eq_true rfl⟩ (rd_rcv hG2.1 (mP_6 hM2) rfl) rfl hl.1 rfl (Nat.le_of_ble_eq_true rfl) ⟨by show 20 ≤ 20; omega, by show 9 * 20 ≤ 180; omega⟩ dX11_digest_281 ?_
                                    refine W.eq (g2 := F0 mZ 284 ls [.int (nI (g 3)), .int (nI (g 3))]) rfl ?_
                                    refine lv_icmp_ge (tgt := 314) hx hb dX11_digest_284 (by decide) (fun c10 => ?_) (fun c10 => ?_)
                                    · have d10 := Int32.not_lt.mpr c10
                                      refine lv_iinc (v := nI (k256 + 1)) (lv' := [(3, .int (nI (k256 + 1))), (4, .int (nI (g 3))), (1, .long z275_1), (0, .ref (B 0))]) hx hb dX11_digest_314 hl (k := 3) rfl (nI_inc _) (by decide) rfl (fun ls hl => ?_)
                                      refine lv_goto (tgt := 256) hx hb dX11_digest_317 (by decide) ?_
                                      exact ih256 (k256 + 1) (by omega) _ (by subst ez275_1; subst ex9; subst ez256_1; subst ez208_1; subst ez83_1; subst ez36_1; subst ez11_1; rfl) ls (lv_sub hl [0, 2, 3] rfl)
                                    · first | exact absurd c10 c5 | exact absurd c5 c10 | exact absurd (Int32.not_lt.mp c10) (Int32.not_le.mpr c5) | exact absurd (Int32.not_lt.mpr c10) (by simp only [Int32.not_lt]; exact c5)
                                  | succ n275 ih275 =>
                                    intro k275 hk275 z275_1 ez275_1 ls hl
                                    refine lv_iload hx hb dX11_digest_275 (lv_at hl 0 rfl) ?_
                                    refine lv_aload_n hx hb dX11_digest_277 rfl (lv_at hl 2 rfl) ?_
                                    refine rd_get (own := RX11) (x := .ref (B 6)) S hG2.1 iX11 (mP_0 hM2) 7 rfl (by decide) w3 rfl dX11_digest_278 ?_
                                    refine rd_V (As := []) (rest := [.int (nI k275)]) (v := some (.int (nI (g 3)))) S hG2 (c_Jx4a65c_size_8abf5 l G H2 (B 6) (eA G B cp 6 9) (mc 6) (nI (g 3)) (mP_6 hM2)) gX11_digest_Jx4a65c_size_8abf5 rfl ⟨rfl, rfl⟩ nmJx4a65c_size_8abf5 ⟨Nat.le_of_ble_eq_true rfl, Nat.le_of_ble_eq_true rfl⟩ (rd_rcv hG2.1 (mP_6 hM2) rfl) rfl hl.1 rfl (Nat.le_of_ble_eq_true rfl) ⟨by show 20 ≤ 20; omega, by show 9 * 20 ≤ 180; omega⟩ dX11_digest_281 ?_
                                    refine W.eq (g2 := F0 mZ 284 ls [.int (nI (g 3)), .int (nI k275)]) rfl ?_
                                    refine lv_icmp_ge (tgt := 314) hx hb dX11_digest_284 (by decide) (fun c11 => ?_) (fun c11 => ?_)
                                    · exact absurd c11 (nI_ge (by omega) (by omega))
                                    · have d11 := Int32.not_le.mp c11
                                      refine lv_lload_n hx hb dX11_digest_287 rfl (lv_at hl 1 rfl) ?_
                                      refine lv_aload_n hx hb dX11_digest_288 rfl (lv_at hl 2 rfl) ?_
                                      refine lv_iload_n hx hb dX11_digest_289 rfl (lv_at hl 3 rfl) ?_
                                      refine lv_iload hx hb dX11_digest_290 (lv_at hl 0 rfl) ?_
                                      refine lv_aload_n hx hb dX11_digest_292 rfl (lv_at hl 2 rfl) ?_
                                      refine rd_get (own := RX11) (x := .int (nI (g 0))) S hG2.1 iX11 (mP_0 hM2) 1 rfl (by decide) w5 rfl dX11_digest_293 ?_
                                      refine rd_V (As := [.int (nI k256), .int (nI k275), .int (nI (g 0))]) (rest := [.long z275_1]) (v := some (.int (mBl f g k256 k275 (nI (g 0))))) S hG2 (c_X11_believesNow l G B 0 mc cp f g H2 hM2 k256 k275 (nI (g 0)) (by omega) (by omega) (hrd _ (by omega))) gX11_digest_X11_believesNow rfl ⟨rfl, rfl⟩ nmX11_believesNow ⟨Nat.le_of_ble_eq_true rfl, Nat.le_of_ble_eq_true rfl⟩ (rd_rcv hG2.1 (mP_0 hM2) rfl) rfl hl.1 rfl (Nat.le_of_ble_eq_true rfl) ⟨by show 20 ≤ 20; omega, by show 9 * 20 ≤ 180; omega⟩ dX11_digest_296 ?_
                                      refine W.eq (g2 := F0 mZ 299 ls [.int (mBl f g k256 k275 (nI (g 0))), .long z275_1]) rfl ?_
                                      refine lv_iconst (v := 1) hx hb dX11_digest_299 (by decide) ?_
                                      refine rd_S (As := [.int (mBl f g k256 k275 (nI (g 0))), .int 1]) (rest := [.long z275_1]) (v := some (.int (fCat (mBl f g k256 k275 (nI (g 0))) 1))) S hG2 (c_X11_by l G H2 (mBl f g k256 k275 (nI (g 0))) 1) gX11_digest_X11_by rfl ⟨rfl, rfl⟩ nmX11_by ⟨Nat.le_of_ble_eq_true rfl, Nat.le_of_ble_eq_true rfl⟩ rfl hl.1 rfl (Nat.le_of_ble_eq_true rfl) ⟨by show 20 ≤ 20; omega, by show 9 * 20 ≤ 180; omega⟩ dX11_digest_300 ?_
                                      refine W.eq (g2 := F0 mZ 303 ls [.int (fCat (mBl f g k256 k275 (nI (g 0))) 1), .long z275_1]) rfl ?_
                                      refine lv_i2l (v := (fCat (mBl f g k256 k275 (nI (g 0))) 1).toInt64) hx hb dX11_digest_303 rfl ?_
                                      refine rd_S (As := [.long z275_1, .long ((fCat (mBl f g k256 k275 (nI (g 0))) 1).toInt64)]) (rest := []) (v := some (.long (sd z275_1 (fCat (mBl f g k256 k275 (nI (g 0))) 1)))) S hG2 (c_X11_add l G H2 z275_1 ((fCat (mBl f g k256 k275 (nI (g 0))) 1).toInt64)) gX11_digest_X11_add rfl ⟨rfl, rfl⟩ nmX11_add ⟨Nat.le_of_ble_eq_true rfl, Nat.le_of_ble_eq_true rfl⟩ rfl hl.1 rfl (Nat.le_of_ble_eq_true rfl) ⟨by show 20 ≤ 20; omega, by show 9 * 20 ≤ 180; omega⟩ dX11_digest_304 ?_
                                      refine W.eq (g2 := F0 mZ 307 ls [.long (sd z275_1 (fCat (mBl f g k256 k275 (nI (g 0))) 1))]) rfl ?_
                                      refine lv_topl (fun x12 ex12 => ?_)
                                      refine lv_lstore_n (lv' := [(1, .long x12), (4, .int (nI k275)), (0, .ref (B 0)), (3, .int (nI k256))]) hx hb dX11_digest_307 rfl hl (by decide) rfl (fun ls hl => ?_)
                                      refine lv_iinc (v := nI (k275 + 1)) (lv' := [(4, .int (nI (k275 + 1))), (1, .long x12), (0, .ref (B 0)), (3, .int (nI k256))]) hx hb dX11_digest_308 hl (k := 1) rfl (nI_inc _) (by decide) rfl (fun ls hl => ?_)
                                      refine lv_goto (tgt := 275) hx hb dX11_digest_311 (by decide) ?_
                                      exact ih275 (k275 + 1) (by omega) _ (by subst ex12; subst ez275_1; subst ex9; subst ez256_1; subst ez208_1; subst ez83_1; subst ez36_1; subst ez11_1; rfl) ls (lv_sub hl [0, 1, 2, 3] rfl)
                                exact loop275 (g 3) 0 (by omega) _ (by subst ex9; subst ez256_1; subst ez208_1; subst ez83_1; subst ez36_1; subst ez11_1; first | rfl | first | rfl | (simp only [fl, c3, d3, c4, d4, c5, d5, c6, d6, c8, d8, ne_eq, not_true_eq_false, not_false_eq_true, and_true, true_and, and_false, false_and, or_true, true_or, or_false, false_or, and_self, or_self, decide_eq_true_eq, ↓reduceIte]; done) | (simp only [fl, c3, d3, c4, d4, c5, d5, c6, d6, c8, d8, ne_eq, not_true_eq_false, not_false_eq_true, and_true, true_and, and_false, false_and, or_true, true_or, or_false, false_or, and_self, or_self, decide_eq_true_eq, ↓reduceIte]; rfl) | (simp [fl, c3, d3, c4, d4, c5, d5, c6, d6, c8, d8]; done) | (simp only [fl, c3, d3, c4, d4, c5, d5, c6, d6, c8, d8, ne_eq, not_true_eq_false, not_false_eq_true, and_true, true_and, and_false, false_and, or_true, true_or, or_false, false_or, and_self, or_self, decide_eq_true_eq, ↓reduceIte])) ls (lv_sub hl [0, 1, 3, 2] rfl)
                          exact loop256 4 0 (by omega) _ (by subst ez208_1; subst ez83_1; subst ez36_1; subst ez11_1; first | rfl | first | rfl | (simp only [fl, c3, d3, c4, d4, c5, d5, c6, d6, ne_eq, not_true_eq_false, not_false_eq_true, and_true, true_and, and_false, false_and, or_true, true_or, or_false, false_or, and_self, or_self, decide_eq_true_eq, ↓reduceIte]; done) | (simp only [fl, c3, d3, c4, d4, c5, d5, c6, d6, ne_eq, not_true_eq_false, not_false_eq_true, and_true, true_and, and_false, false_and, or_true, true_or, or_false, false_or, and_self, or_self, decide_eq_true_eq, ↓reduceIte]; rfl) | (simp [fl, c3, d3, c4, d4, c5, d5, c6, d6]; done) | (simp only [fl, c3, d3, c4, d4, c5, d5, c6, d6, ne_eq, not_true_eq_false, not_false_eq_true, and_true, true_and, and_false, false_and, or_true, true_or, or_false, false_or, and_self, or_self, decide_eq_true_eq, ↓reduceIte])) ls (lv_sub hl [0, 1, 2] rfl)
                        · exact absurd (nI_le (by omega) (by omega)) c6
                      | succ n208 ih208 =>
                        intro k208 hk208 z208_1 ez208_1 ls hl
                        refine lv_iload_n hx hb dX11_digest_208 rfl (lv_at hl 0 rfl) ?_
                        refine lv_aload_n hx hb dX11_digest_209 rfl (lv_at hl 2 rfl) ?_
                        refine rd_get (own := RX11) (x := .ref (B 7)) S hG2.1 iX11 (mP_0 hM2) 8 rfl (by decide) w4 rfl dX11_digest_210 ?_
                        refine rd_V (As := []) (rest := [.int (nI k208)]) (v := some (.int (nI (g 5)))) S hG2 (c_Jx4a65c_size_8abf5 l G H2 (B 7) (eA G B cp 7 10) (mc 7) (nI (g 5)) (mP_7 hM2)) gX11_digest_Jx4a65c_size_8abf5 rfl ⟨rfl, rfl⟩ nmJx4a65c_size_8abf5 ⟨Nat.le_of_ble_eq_true rfl, Nat.le_of_ble_eq_true rfl⟩ (rd_rcv hG2.1 (mP_7 hM2) rfl) rfl hl.1 rfl (Nat.le_of_ble_eq_true rfl) ⟨by show 20 ≤ 20; omega, by show 9 * 20 ≤ 180; omega⟩ dX11_digest_213 ?_
                        refine W.eq (g2 := F0 mZ 216 ls [.int (nI (g 5)), .int (nI k208)]) rfl ?_
                        refine lv_icmp_ge (tgt := 254) hx hb dX11_digest_216 (by decide) (fun c13 => ?_) (fun c13 => ?_)
                        · exact absurd c13 (nI_ge (by omega) (by omega))
                        · have d13 := Int32.not_le.mp c13
                          refine lv_iconst (v := 0) hx hb dX11_digest_219 (by decide) ?_
                          refine lv_istore (lv' := [(4, .int 0), (3, .int (nI k208)), (1, .long z208_1), (0, .ref (B 0))]) hx hb dX11_digest_220 hl (by decide) rfl (fun ls hl => ?_)
                          have loop222 : ∀ (n222 k222 : Nat), k222 + n222 = 6 → ∀ (z222_1 : Int64), z222_1 = fl k222 (fun w d => sd d (mOn f g k208 (nI w))) (fl k208 (fun i d => fl 6 (fun w d => sd d (mOn f g i (nI w))) d) (md3 f g)) → ∀ (ls : Array Slot), lv_has ls 5 [(4, .int (nI k222)), (1, .long z222_1), (0, .ref (B 0)), (3, .int (nI k208))] → W pZ l eZ ({ frames := 8, cells := 20, slots := 180, locals := 190 } : Room) sZ mZ ([.ref (B 0)] : List Value).toArray bZ meZ cZ H2 locs2 20 (9 * 20) (mw_Q bZ D H [.ref (B 0)] sZ 20 180 (fun v t => v = some (.long (md5 f g)) ∧ MP G B 0 mc cp f g t)) (F0 mZ 222 ls []) := by
                            intro n222
                            induction n222 with
                            | zero =>
                              intro k222 hk222 z222_1 ez222_1 ls hl
                              obtain rfl : k222 = 6 := by omega
                              refine lv_iload hx hb dX11_digest_222 (lv_at hl 0 rfl) ?_
                              refine lv_bipush (v := 6) hx hb dX11_digest_224 (by decide) ?_
                              refine lv_icmp_ge (tgt := 248) hx hb dX11_digest_226 (by decide) (fun c14 => ?_) (fun c14 => ?_)
                              · have d14 := Int32.not_lt.mpr c14
                                refine lv_iinc (v := nI (k208 + 1)) (lv' := [(3, .int (nI (k208 + 1))), (4, .int (nI 6)), (1, .long z222_1), (0, .ref (B 0))]) hx hb dX11_digest_248 hl (k := 3) rfl (nI_inc _) (by decide) rfl (fun ls hl => ?_)
                                refine lv_goto (tgt := 208) hx hb dX11_digest_251 (by decide) ?_
                                exact ih208 (k208 + 1) (by omega) _ (by subst ez222_1; subst ez208_1; subst ez83_1; subst ez36_1; subst ez11_1; rfl) ls (lv_sub hl [0, 2, 3] rfl)
                              · have c14 : ¬ (nI 6 ≤ nI 6) := c14; exact absurd (nI_le (by omega) (by omega)) c14
                            | succ n222 ih222 =>
                              intro k222 hk222 z222_1 ez222_1 ls hl
                              refine lv_iload hx hb dX11_digest_222 (lv_at hl 0 rfl) ?_
                              refine lv_bipush (v := 6) hx hb dX11_digest_224 (by decide) ?_
                              refine lv_icmp_ge (tgt := 248) hx hb dX11_digest_226 (by decide) (fun c15 => ?_) (fun c15 => ?_)
                              · have c15 : nI 6 ≤ nI k222 := c15; exact absurd c15 (nI_ge (by omega) (by omega))
                              · have d15 := Int32.not_le.mp c15
                                refine lv_lload_n hx hb dX11_digest_229 rfl (lv_at hl 1 rfl) ?_
                                refine lv_aload_n hx hb dX11_digest_230 rfl (lv_at hl 2 rfl) ?_
                                refine lv_iload_n hx hb dX11_digest_231 rfl (lv_at hl 3 rfl) ?_
                                refine lv_iload hx hb dX11_digest_232 (lv_at hl 0 rfl) ?_
                                refine rd_V (As := [.int (nI k208), .int (nI k222)]) (rest := [.long z222_1]) (v := some (.int (mOn f g k208 (nI k222)))) S hG2 (c_X11_ofNoticeNow l G B 0 mc cp f g H2 hM2 k208 (nI k222) (by omega)) gX11_digest_X11_ofNoticeNow rfl ⟨rfl, rfl⟩ nmX11_ofNoticeNow ⟨Nat.le_of_ble_eq_true rfl, Nat.le_of_ble_eq_true rfl⟩ (rd_rcv hG2.1 (mP_0 hM2) rfl) rfl hl.1 rfl (Nat.le_of_ble_eq_true rfl) ⟨by show 20 ≤ 20; omega, by show 9 * 20 ≤ 180; omega⟩ dX11_digest_234 ?_
                                refine W.eq (g2 := F0 mZ 237 ls [.int (mOn f g k208 (nI k222)), .long z222_1]) rfl ?_
                                refine lv_i2l (v := (mOn f g k208 (nI k222)).toInt64) hx hb dX11_digest_237 rfl ?_
                                refine rd_S (As := [.long z222_1, .long ((mOn f g k208 (nI k222)).toInt64)]) (rest := []) (v := some (.long (sd z222_1 (mOn f g k208 (nI k222))))) S hG2 (c_X11_add l G H2 z222_1 ((mOn f g k208 (nI k222)).toInt64)) gX11_digest_X11_add rfl ⟨rfl, rfl⟩ nmX11_add ⟨Nat.le_of_ble_eq_true rfl, Nat.le_of_ble_eq_true rfl⟩ rfl hl.1 rfl (Nat.le_of_ble_eq_true rfl) ⟨by show 20 ≤ 20; omega, by show 9 * 20 ≤ 180; omega⟩ dX11_digest_238 ?_
                                refine W.eq (g2 := F0 mZ 241 ls [.long (sd z222_1 (mOn f g k208 (nI k222)))]) rfl ?_
                                refine lv_topl (fun x16 ex16 => ?_)
                                refine lv_lstore_n (lv' := [(1, .long x16), (4, .int (nI k222)), (0, .ref (B 0)), (3, .int (nI k208))]) hx hb dX11_digest_241 rfl hl (by decide) rfl (fun ls hl => ?_)
                                refine lv_iinc (v := nI (k222 + 1)) (lv' := [(4, .int (nI (k222 + 1))), (1, .long x16), (0, .ref (B 0)), (3, .int (nI k208))]) hx hb dX11_digest_242 hl (k := 1) rfl (nI_inc _) (by decide) rfl (fun ls hl => ?_)
                                refine lv_goto (tgt := 222) hx hb dX11_digest_245 (by decide) ?_
                                exact ih222 (k222 + 1) (by omega) _ (by subst ex16; subst ez222_1; subst ez208_1; subst ez83_1; subst ez36_1; subst ez11_1; rfl) ls (lv_sub hl [0, 1, 2, 3] rfl)
                          exact loop222 6 0 (by omega) _ (by subst ez208_1; subst ez83_1; subst ez36_1; subst ez11_1; first | rfl | first | rfl | (simp only [fl, c3, d3, c4, d4, c5, d5, c13, d13, ne_eq, not_true_eq_false, not_false_eq_true, and_true, true_and, and_false, false_and, or_true, true_or, or_false, false_or, and_self, or_self, decide_eq_true_eq, ↓reduceIte]; done) | (simp only [fl, c3, d3, c4, d4, c5, d5, c13, d13, ne_eq, not_true_eq_false, not_false_eq_true, and_true, true_and, and_false, false_and, or_true, true_or, or_false, false_or, and_self, or_self, decide_eq_true_eq, ↓reduceIte]; rfl) | (simp [fl, c3, d3, c4, d4, c5, d5, c13, d13]; done) | (simp only [fl, c3, d3, c4, d4, c5, d5, c13, d13, ne_eq, not_true_eq_false, not_false_eq_true, and_true, true_and, and_false, false_and, or_true, true_or, or_false, false_or, and_self, or_self, decide_eq_true_eq, ↓reduceIte])) ls (lv_sub hl [0, 2, 3, 1] rfl)
                    exact loop208 (g 5) 0 (by omega) _ (by subst ez83_1; subst ez36_1; subst ez11_1; first | rfl | first | rfl | (simp only [fl, c3, d3, c4, d4, c5, d5, ne_eq, not_true_eq_false, not_false_eq_true, and_true, true_and, and_false, false_and, or_true, true_or, or_false, false_or, and_self, or_self, decide_eq_true_eq, ↓reduceIte]; done) | (simp only [fl, c3, d3, c4, d4, c5, d5, ne_eq, not_true_eq_false, not_false_eq_true, and_true, true_and, and_false, false_and, or_true, true_or, or_false, false_or, and_self, or_self, decide_eq_true_eq, ↓reduceIte]; rfl) | (simp [fl, c3, d3, c4, d4, c5, d5]; done) | (simp only [fl, c3, d3, c4, d4, c5, d5, ne_eq, not_true_eq_false, not_false_eq_true, and_true, true_and, and_false, false_and, or_true, true_or, or_false, false_or, and_self, or_self, decide_eq_true_eq, ↓reduceIte])) ls (lv_sub hl [0, 1, 2] rfl)
                  · exact absurd (nI_le (by omega) (by omega)) c5
                | succ n83 ih83 =>
                  intro k83 hk83 z83_1 ez83_1 ls hl
                  refine lv_iload_n hx hb dX11_digest_83 rfl (lv_at hl 0 rfl) ?_
                  refine lv_aload_n hx hb dX11_digest_84 rfl (lv_at hl 2 rfl) ?_
                  refine rd_get (own := RX11) (x := .ref (B 6)) S hG2.1 iX11 (mP_0 hM2) 7 rfl (by decide) w3 rfl dX11_digest_85 ?_
                  refine rd_V (As := []) (rest := [.int (nI k83)]) (v := some (.int (nI (g 3)))) S hG2 (c_Jx4a65c_size_8abf5 l G H2 (B 6) (eA G B cp 6 9) (mc 6) (nI (g 3)) (mP_6 hM2)) gX11_digest_Jx4a65c_size_8abf5 rfl ⟨rfl, rfl⟩ nmJx4a65c_size_8abf5 ⟨Nat.le_of_ble_eq_true rfl, Nat.le_of_ble_eq_true rfl⟩ (rd_rcv hG2.1 (mP_6 hM2) rfl) rfl hl.1 rfl (Nat.le_of_ble_eq_true rfl) ⟨by show 20 ≤ 20; omega, by show 9 * 20 ≤ 180; omega⟩ dX11_digest_88 ?_
                  refine W.eq (g2 := F0 mZ 91 ls [.int (nI (g 3)), .int (nI k83)]) rfl ?_
                  refine lv_icmp_ge (tgt := 206) hx hb dX11_digest_91 (by decide) (fun c17 => ?_) (fun c17 => ?_)
                  · exact absurd c17 (nI_ge (by omega) (by omega))
                  · have d17 := Int32.not_le.mp c17
                    refine lv_lload_n hx hb dX11_digest_94 rfl (lv_at hl 1 rfl) ?_
                    refine lv_aload_n hx hb dX11_digest_95 rfl (lv_at hl 2 rfl) ?_
                    refine lv_iload_n hx hb dX11_digest_96 rfl (lv_at hl 0 rfl) ?_
                    refine lv_aload_n hx hb dX11_digest_97 rfl (lv_at hl 2 rfl) ?_
                    refine rd_get (own := RX11) (x := .int (nI (g 0))) S hG2.1 iX11 (mP_0 hM2) 1 rfl (by decide) w5 rfl dX11_digest_98 ?_
                    refine rd_V (As := [.int (nI k83), .int (nI (g 0))]) (rest := [.long z83_1]) (v := some (.int (mLH f g k83 (nI (g 0)) (-1)))) S hG2 (c_X11_demandedNow_ l G B 0 mc cp f g H2 hM2 k83 (nI (g 0)) (by omega)) gX11_digest_X11_demandedNow_ rfl ⟨rfl, rfl⟩ nmX11_demandedNow_ ⟨Nat.le_of_ble_eq_true rfl, Nat.le_of_ble_eq_true rfl⟩ (rd_rcv hG2.1 (mP_0 hM2) rfl) rfl hl.1 rfl (Nat.le_of_ble_eq_true rfl) ⟨by show 20 ≤ 20; omega, by show 9 * 20 ≤ 180; omega⟩ dX11_digest_101 ?_
                    refine W.eq (g2 := F0 mZ 104 ls [.int (mLH f g k83 (nI (g 0)) (-1)), .long z83_1]) rfl ?_
                    refine lv_i2l (v := (mLH f g k83 (nI (g 0)) (-1)).toInt64) hx hb dX11_digest_104 rfl ?_
                    refine rd_S (As := [.long z83_1, .long ((mLH f g k83 (nI (g 0)) (-1)).toInt64)]) (rest := []) (v := some (.long (sd z83_1 (mLH f g k83 (nI (g 0)) (-1))))) S hG2 (c_X11_add l G H2 z83_1 ((mLH f g k83 (nI (g 0)) (-1)).toInt64)) gX11_digest_X11_add rfl ⟨rfl, rfl⟩ nmX11_add ⟨Nat.le_of_ble_eq_true rfl, Nat.le_of_ble_eq_true rfl⟩ rfl hl.1 rfl (Nat.le_of_ble_eq_true rfl) ⟨by show 20 ≤ 20; omega, by show 9 * 20 ≤ 180; omega⟩ dX11_digest_105 ?_
                    refine W.eq (g2 := F0 mZ 108 ls [.long (sd z83_1 (mLH f g k83 (nI (g 0)) (-1)))]) rfl ?_
                    refine lv_aload_n hx hb dX11_digest_108 rfl (lv_at hl 2 rfl) ?_
                    refine lv_iload_n hx hb dX11_digest_109 rfl (lv_at hl 0 rfl) ?_
                    refine lv_aload_n hx hb dX11_digest_110 rfl (lv_at hl 2 rfl) ?_
                    refine rd_get (own := RX11) (x := .int (nI (g 0))) S hG2.1 iX11 (mP_0 hM2) 1 rfl (by decide) w5 rfl dX11_digest_111 ?_
                    refine rd_V (As := [.int (nI k83), .int (nI (g 0))]) (rest := [.long (sd z83_1 (mLH f g k83 (nI (g 0)) (-1)))]) (v := some (.int (mIF f g k83 (nI (g 0))))) S hG2 (c_X11_inForceNow l G B 0 mc cp f g H2 hM2 k83 (nI (g 0)) (by omega)) gX11_digest_X11_inForceNow rfl ⟨rfl, rfl⟩ nmX11_inForceNow ⟨Nat.le_of_ble_eq_true rfl, Nat.le_of_ble_eq_true rfl⟩ (rd_rcv hG2.1 (mP_0 hM2) rfl) rfl hl.1 rfl (Nat.le_of_ble_eq_true rfl) ⟨by show 20 ≤ 20; omega, by show 9 * 20 ≤ 180; omega⟩ dX11_digest_114 ?_
                    refine W.eq (g2 := F0 mZ 117 ls [.int (mIF f g k83 (nI (g 0))), .long (sd z83_1 (mLH f g k83 (nI (g 0)) (-1)))]) rfl ?_
                    refine lv_i2l (v := (mIF f g k83 (nI (g 0))).toInt64) hx hb dX11_digest_117 rfl ?_
                    refine rd_S (As := [.long (sd z83_1 (mLH f g k83 (nI (g 0)) (-1))), .long ((mIF f g k83 (nI (g 0))).toInt64)]) (rest := []) (v := some (.long (sd (sd z83_1 (mLH f g k83 (nI (g 0)) (-1))) (mIF f g k83 (nI (g 0)))))) S hG2 (c_X11_add l G H2 (sd z83_1 (mLH f g k83 (nI (g 0)) (-1))) ((mIF f g k83 (nI (g 0))).toInt64)) gX11_digest_X11_add rfl ⟨rfl, rfl⟩ nmX11_add ⟨Nat.le_of_ble_eq_true rfl, Nat.le_of_ble_eq_true rfl⟩ rfl hl.1 rfl (Nat.le_of_ble_eq_true rfl) ⟨by show 20 ≤ 20; omega, by show 9 * 20 ≤ 180; omega⟩ dX11_digest_118 ?_
                    refine W.eq (g2 := F0 mZ 121 ls [.long (sd (sd z83_1 (mLH f g k83 (nI (g 0)) (-1))) (mIF f g k83 (nI (g 0))))]) rfl ?_
                    refine lv_topl (fun x18 ex18 => ?_)
                    refine lv_lstore_n (lv' := [(1, .long x18), (3, .int (nI k83)), (0, .ref (B 0))]) hx hb dX11_digest_121 rfl hl (by decide) rfl (fun ls hl => ?_)
                    refine lv_lload_n hx hb dX11_digest_122 rfl (lv_at hl 0 rfl) ?_
                    refine lv_aload_n hx hb dX11_digest_123 rfl (lv_at hl 2 rfl) ?_
                    refine rd_get (own := RX11) (x := .ref (B 6)) S hG2.1 iX11 (mP_0 hM2) 7 rfl (by decide) w3 rfl dX11_digest_124 ?_
                    refine lv_iload_n hx hb dX11_digest_127 rfl (lv_at hl 1 rfl) ?_
                    refine rd_V (As := [.int (nI k83)]) (rest := [.long x18]) (v := some (.ref (B (40 + k83)))) S hG2 (c_Jx4a65c_get_915e3 l G H2 (B 6) (eA G B cp 6 9) (mc 6) (g 3) (cp 6) (lsE B 40 (g 3)) (mP_6 hM2) (mP_e6 hM2 (by omega)) hM2.1.2.1.2.1 (hM2.1.2.1.2.2.2.2 _) k83 (B (40 + k83)) (by omega) (lsE_at (by omega))) gX11_digest_Jx4a65c_get_915e3 rfl ⟨rfl, rfl⟩ nmJx4a65c_get_915e3 ⟨Nat.le_of_ble_eq_true rfl, Nat.le_of_ble_eq_true rfl⟩ (rd_rcv hG2.1 (mP_6 hM2) rfl) rfl hl.1 rfl (Nat.le_of_ble_eq_true rfl) ⟨by show 20 ≤ 20; omega, by show 9 * 20 ≤ 180; omega⟩ dX11_digest_128 ?_
                    refine W.eq (g2 := F0 mZ 131 ls [.ref (B (40 + k83)), .long x18]) rfl ?_
                    refine rd_castS S hG2.1 (mP_pr hM2 (i := k83) (by omega)) rfl rfl w6 dX11_digest_131 ?_
                    refine lv_aload_n hx hb dX11_digest_134 rfl (lv_at hl 2 rfl) ?_
                    refine rd_get (own := RX11) (x := .int (nI (g 0))) S hG2.1 iX11 (mP_0 hM2) 1 rfl (by decide) w5 rfl dX11_digest_135 ?_
                    refine rd_V (As := [.int (nI (g 0))]) (rest := [.long x18]) (v := some (.int (mCh f g k83 (nI (g 0))))) S hG2 (c_X10_chart l G B 0 mc cp f g H2 hM2 k83 (nI (g 0)) (by omega)) gX11_digest_X10_chart rfl ⟨rfl, rfl⟩ nmX10_chart ⟨Nat.le_of_ble_eq_true rfl, Nat.le_of_ble_eq_true rfl⟩ (rd_rcv hG2.1 (mP_pr hM2 (i := k83) (by omega)) rfl) rfl hl.1 rfl (Nat.le_of_ble_eq_true rfl) ⟨by show 20 ≤ 20; omega, by show 9 * 20 ≤ 180; omega⟩ dX11_digest_138 ?_
                    refine W.eq (g2 := F0 mZ 141 ls [.int (mCh f g k83 (nI (g 0))), .long x18]) rfl ?_
                    refine lv_i2l (v := (mCh f g k83 (nI (g 0))).toInt64) hx hb dX11_digest_141 rfl ?_
                    refine rd_S (As := [.long x18, .long ((mCh f g k83 (nI (g 0))).toInt64)]) (rest := []) (v := some (.long (sd x18 (mCh f g k83 (nI (g 0)))))) S hG2 (c_X11_add l G H2 x18 ((mCh f g k83 (nI (g 0))).toInt64)) gX11_digest_X11_add rfl ⟨rfl, rfl⟩ nmX11_add ⟨Nat.le_of_ble_eq_true rfl, Nat.le_of_ble_eq_true rfl⟩ rfl hl.1 rfl (Nat.le_of_ble_eq_true rfl) ⟨by show 20 ≤ 20; omega, by show 9 * 20 ≤ 180; omega⟩ dX11_digest_142 ?_
                    refine W.eq (g2 := F0 mZ 145 ls [.long (sd x18 (mCh f g k83 (nI (g 0))))]) rfl ?_
                    refine lv_aload_n hx hb dX11_digest_145 rfl (lv_at hl 2 rfl) ?_
                    refine rd_get (own := RX11) (x := .ref (B 6)) S hG2.1 iX11 (mP_0 hM2) 7 rfl (by decide) w3 rfl dX11_digest_146 ?_
                    refine lv_iload_n hx hb dX11_digest_149 rfl (lv_at hl 1 rfl) ?_
                    refine rd_V (As := [.int (nI k83)]) (rest := [.long (sd x18 (mCh f g k83 (nI (g 0))))]) (v := some (.ref (B (40 + k83)))) S hG2 (c_Jx4a65c_get_915e3 l G H2 (B 6) (eA G B cp 6 9) (mc 6) (g 3) (cp 6) (lsE B 40 (g 3)) (mP_6 hM2) (mP_e6 hM2 (by omega)) hM2.1.2.1.2.1 (hM2.1.2.1.2.2.2.2 _) k83 (B (40 + k83)) (by omega) (lsE_at (by omega))) gX11_digest_Jx4a65c_get_915e3 rfl ⟨rfl, rfl⟩ nmJx4a65c_get_915e3 ⟨Nat.le_of_ble_eq_true rfl, Nat.le_of_ble_eq_true rfl⟩ (rd_rcv hG2.1 (mP_6 hM2) rfl) rfl hl.1 rfl (Nat.le_of_ble_eq_true rfl) ⟨by show 20 ≤ 20; omega, by show 9 * 20 ≤ 180; omega⟩ dX11_digest_150 ?_
                    refine W.eq (g2 := F0 mZ 153 ls [.ref (B (40 + k83)), .long (sd x18 (mCh f g k83 (nI (g 0))))]) rfl ?_
                    refine rd_castS S hG2.1 (mP_pr hM2 (i := k83) (by omega)) rfl rfl w6 dX11_digest_153 ?_
                    refine lv_sipush (v := 399) hx hb dX11_digest_156 (by decide) ?_
                    refine rd_V (As := [.int 399]) (rest := [.long (sd x18 (mCh f g k83 (nI (g 0))))]) (v := some (.int (mCh f g k83 399))) S hG2 (c_X10_chart l G B 0 mc cp f g H2 hM2 k83 399 (by omega)) gX11_digest_X10_chart rfl ⟨rfl, rfl⟩ nmX10_chart ⟨Nat.le_of_ble_eq_true rfl, Nat.le_of_ble_eq_true rfl⟩ (rd_rcv hG2.1 (mP_pr hM2 (i := k83) (by omega)) rfl) rfl hl.1 rfl (Nat.le_of_ble_eq_true rfl) ⟨by show 20 ≤ 20; omega, by show 9 * 20 ≤ 180; omega⟩ dX11_digest_159 ?_
                    refine W.eq (g2 := F0 mZ 162 ls [.int (mCh f g k83 399), .long (sd x18 (mCh f g k83 (nI (g 0))))]) rfl ?_
                    refine lv_i2l (v := (mCh f g k83 399).toInt64) hx hb dX11_digest_162 rfl ?_
                    refine rd_S (As := [.long (sd x18 (mCh f g k83 (nI (g 0)))), .long ((mCh f g k83 399).toInt64)]) (rest := []) (v := some (.long (sd (sd x18 (mCh f g k83 (nI (g 0)))) (mCh f g k83 399)))) S hG2 (c_X11_add l G H2 (sd x18 (mCh f g k83 (nI (g 0)))) ((mCh f g k83 399).toInt64)) gX11_digest_X11_add rfl ⟨rfl, rfl⟩ nmX11_add ⟨Nat.le_of_ble_eq_true rfl, Nat.le_of_ble_eq_true rfl⟩ rfl hl.1 rfl (Nat.le_of_ble_eq_true rfl) ⟨by show 20 ≤ 20; omega, by show 9 * 20 ≤ 180; omega⟩ dX11_digest_163 ?_
                    refine W.eq (g2 := F0 mZ 166 ls [.long (sd (sd x18 (mCh f g k83 (nI (g 0)))) (mCh f g k83 399))]) rfl ?_
                    refine lv_topl (fun x19 ex19 => ?_)
                    refine lv_lstore_n (lv' := [(1, .long x19), (3, .int (nI k83)), (0, .ref (B 0))]) hx hb dX11_digest_166 rfl hl (by decide) rfl (fun ls hl => ?_)
                    refine lv_lload_n hx hb dX11_digest_167 rfl (lv_at hl 0 rfl) ?_
                    refine lv_aload_n hx hb dX11_digest_168 rfl (lv_at hl 2 rfl) ?_
                    refine lv_iload_n hx hb dX11_digest_169 rfl (lv_at hl 1 rfl) ?_
                    refine lv_aload_n hx hb dX11_digest_170 rfl (lv_at hl 2 rfl) ?_
                    refine rd_get (own := RX11) (x := .int (nI (g 0))) S hG2.1 iX11 (mP_0 hM2) 1 rfl (by decide) w5 rfl dX11_digest_171 ?_
                    refine rd_V (As := [.int (nI k83), .int (nI (g 0))]) (rest := [.long x19]) (v := some (.int (mDc f g k83 (nI (g 0))))) S hG2 (c_X11_decidesNow l G B 0 mc cp f g H2 hM2 k83 (nI (g 0)) (by omega)) gX11_digest_X11_decidesNow rfl ⟨rfl, rfl⟩ nmX11_decidesNow ⟨Nat.le_of_ble_eq_true rfl, Nat.le_of_ble_eq_true rfl⟩ (rd_rcv hG2.1 (mP_0 hM2) rfl) rfl hl.1 rfl (Nat.le_of_ble_eq_true rfl) ⟨by show 20 ≤ 20; omega, by show 9 * 20 ≤ 180; omega⟩ dX11_digest_174 ?_
                    refine W.eq (g2 := F0 mZ 177 ls [.int (mDc f g k83 (nI (g 0))), .long x19]) rfl ?_
                    refine lv_i2l (v := (mDc f g k83 (nI (g 0))).toInt64) hx hb dX11_digest_177 rfl ?_
                    refine rd_S (As := [.long x19, .long ((mDc f g k83 (nI (g 0))).toInt64)]) (rest := []) (v := some (.long (sd x19 (mDc f g k83 (nI (g 0)))))) S hG2 (c_X11_add l G H2 x19 ((mDc f g k83 (nI (g 0))).toInt64)) gX11_digest_X11_add rfl ⟨rfl, rfl⟩ nmX11_add ⟨Nat.le_of_ble_eq_true rfl, Nat.le_of_ble_eq_true rfl⟩ rfl hl.1 rfl (Nat.le_of_ble_eq_true rfl) ⟨by show 20 ≤ 20; omega, by show 9 * 20 ≤ 180; omega⟩ dX11_digest_178 ?_
                    refine W.eq (g2 := F0 mZ 181 ls [.long (sd x19 (mDc f g k83 (nI (g 0))))]) rfl ?_
                    refine lv_aload_n hx hb dX11_digest_181 rfl (lv_at hl 2 rfl) ?_
                    refine lv_iload_n hx hb dX11_digest_182 rfl (lv_at hl 1 rfl) ?_
                    refine rd_V (As := [.int (nI k83)]) (rest := [.long (sd x19 (mDc f g k83 (nI (g 0))))]) (v := some (.int (mUL f g k83 (400 - g 0) 0))) S hG2 (c_X11_unsafeOnNow l G B 0 mc cp f g H2 hM2 k83 (by omega)) gX11_digest_X11_unsafeOnNow rfl ⟨rfl, rfl⟩ nmX11_unsafeOnNow ⟨Nat.le_of_ble_eq_true rfl, Nat.le_of_ble_eq_true rfl⟩ (rd_rcv hG2.1 (mP_0 hM2) rfl) rfl hl.1 rfl (Nat.le_of_ble_eq_true rfl) ⟨by show 20 ≤ 20; omega, by show 9 * 20 ≤ 180; omega⟩ dX11_digest_183 ?_
                    refine W.eq (g2 := F0 mZ 186 ls [.int (mUL f g k83 (400 - g 0) 0), .long (sd x19 (mDc f g k83 (nI (g 0))))]) rfl ?_
                    refine lv_i2l (v := (mUL f g k83 (400 - g 0) 0).toInt64) hx hb dX11_digest_186 rfl ?_
                    refine rd_S (As := [.long (sd x19 (mDc f g k83 (nI (g 0)))), .long ((mUL f g k83 (400 - g 0) 0).toInt64)]) (rest := []) (v := some (.long (sd (sd x19 (mDc f g k83 (nI (g 0)))) (mUL f g k83 (400 - g 0) 0)))) S hG2 (c_X11_add l G H2 (sd x19 (mDc f g k83 (nI (g 0)))) ((mUL f g k83 (400 - g 0) 0).toInt64)) gX11_digest_X11_add rfl ⟨rfl, rfl⟩ nmX11_add ⟨Nat.le_of_ble_eq_true rfl, Nat.le_of_ble_eq_true rfl⟩ rfl hl.1 rfl (Nat.le_of_ble_eq_true rfl) ⟨by show 20 ≤ 20; omega, by show 9 * 20 ≤ 180; omega⟩ dX11_digest_187 ?_
                    refine W.eq (g2 := F0 mZ 190 ls [.long (sd (sd x19 (mDc f g k83 (nI (g 0)))) (mUL f g k83 (400 - g 0) 0))]) rfl ?_
                    refine lv_aload_n hx hb dX11_digest_190 rfl (lv_at hl 2 rfl) ?_
                    refine lv_iload_n hx hb dX11_digest_191 rfl (lv_at hl 1 rfl) ?_
                    refine rd_V (As := [.int (nI k83)]) (rest := [.long (sd (sd x19 (mDc f g k83 (nI (g 0)))) (mUL f g k83 (400 - g 0) 0))]) (v := some (.int (mRF f g k83))) S hG2 (c_X11_raiseForNow l G B 0 mc cp f g H2 hM2 k83 (by omega)) gX11_digest_X11_raiseForNow rfl ⟨rfl, rfl⟩ nmX11_raiseForNow ⟨Nat.le_of_ble_eq_true rfl, Nat.le_of_ble_eq_true rfl⟩ (rd_rcv hG2.1 (mP_0 hM2) rfl) rfl hl.1 rfl (Nat.le_of_ble_eq_true rfl) ⟨by show 20 ≤ 20; omega, by show 9 * 20 ≤ 180; omega⟩ dX11_digest_192 ?_
                    refine W.eq (g2 := F0 mZ 195 ls [.int (mRF f g k83), .long (sd (sd x19 (mDc f g k83 (nI (g 0)))) (mUL f g k83 (400 - g 0) 0))]) rfl ?_
                    refine lv_i2l (v := (mRF f g k83).toInt64) hx hb dX11_digest_195 rfl ?_
                    refine rd_S (As := [.long (sd (sd x19 (mDc f g k83 (nI (g 0)))) (mUL f g k83 (400 - g 0) 0)), .long ((mRF f g k83).toInt64)]) (rest := []) (v := some (.long (sd (sd (sd x19 (mDc f g k83 (nI (g 0)))) (mUL f g k83 (400 - g 0) 0)) (mRF f g k83)))) S hG2 (c_X11_add l G H2 (sd (sd x19 (mDc f g k83 (nI (g 0)))) (mUL f g k83 (400 - g 0) 0)) ((mRF f g k83).toInt64)) gX11_digest_X11_add rfl ⟨rfl, rfl⟩ nmX11_add ⟨Nat.le_of_ble_eq_true rfl, Nat.le_of_ble_eq_true rfl⟩ rfl hl.1 rfl (Nat.le_of_ble_eq_true rfl) ⟨by show 20 ≤ 20; omega, by show 9 * 20 ≤ 180; omega⟩ dX11_digest_196 ?_
                    refine W.eq (g2 := F0 mZ 199 ls [.long (sd (sd (sd x19 (mDc f g k83 (nI (g 0)))) (mUL f g k83 (400 - g 0) 0)) (mRF f g k83))]) rfl ?_
                    refine lv_topl (fun x20 ex20 => ?_)
                    refine lv_lstore_n (lv' := [(1, .long x20), (3, .int (nI k83)), (0, .ref (B 0))]) hx hb dX11_digest_199 rfl hl (by decide) rfl (fun ls hl => ?_)
                    refine lv_iinc (v := nI (k83 + 1)) (lv' := [(3, .int (nI (k83 + 1))), (1, .long x20), (0, .ref (B 0))]) hx hb dX11_digest_200 hl (k := 1) rfl (nI_inc _) (by decide) rfl (fun ls hl => ?_)
                    refine lv_goto (tgt := 83) hx hb dX11_digest_203 (by decide) ?_
                    exact ih83 (k83 + 1) (by omega) _ (by subst ex20; subst ex19; subst ex18; subst ez83_1; subst ez36_1; subst ez11_1; rfl) ls (lv_sub hl [0, 1, 2] rfl)
              exact loop83 (g 3) 0 (by omega) _ (by subst ez36_1; subst ez11_1; first | rfl | first | rfl | (simp only [fl, c3, d3, c4, d4, ne_eq, not_true_eq_false, not_false_eq_true, and_true, true_and, and_false, false_and, or_true, true_or, or_false, false_or, and_self, or_self, decide_eq_true_eq, ↓reduceIte]; done) | (simp only [fl, c3, d3, c4, d4, ne_eq, not_true_eq_false, not_false_eq_true, and_true, true_and, and_false, false_and, or_true, true_or, or_false, false_or, and_self, or_self, decide_eq_true_eq, ↓reduceIte]; rfl) | (simp [fl, c3, d3, c4, d4]; done) | (simp only [fl, c3, d3, c4, d4, ne_eq, not_true_eq_false, not_false_eq_true, and_true, true_and, and_false, false_and, or_true, true_or, or_false, false_or, and_self, or_self, decide_eq_true_eq, ↓reduceIte])) ls (lv_sub hl [0, 1, 2] rfl)
            · exact absurd (nI_le (by omega) (by omega)) c4
          | succ n36 ih36 =>
            intro k36 hk36 z36_1 ez36_1 ls hl
            refine lv_iload_n hx hb dX11_digest_36 rfl (lv_at hl 0 rfl) ?_
            refine lv_aload_n hx hb dX11_digest_37 rfl (lv_at hl 2 rfl) ?_
            refine rd_get (own := RX11) (x := .ref (B 5)) S hG2.1 iX11 (mP_0 hM2) 4 rfl (by decide) w2 rfl dX11_digest_38 ?_
            refine rd_V (As := []) (rest := [.int (nI k36)]) (v := some (.int (nI (g 1)))) S hG2 (c_Jx4a65c_size_8abf5 l G H2 (B 5) (eA G B cp 5 8) (mc 5) (nI (g 1)) (mP_5 hM2)) gX11_digest_Jx4a65c_size_8abf5 rfl ⟨rfl, rfl⟩ nmJx4a65c_size_8abf5 ⟨Nat.le_of_ble_eq_true rfl, Nat.le_of_ble_eq_true rfl⟩ (rd_rcv hG2.1 (mP_5 hM2) rfl) rfl hl.1 rfl (Nat.le_of_ble_eq_true rfl) ⟨by show 20 ≤ 20; omega, by show 9 * 20 ≤ 180; omega⟩ dX11_digest_41 ?_
            refine W.eq (g2 := F0 mZ 44 ls [.int (nI (g 1)), .int (nI k36)]) rfl ?_
            refine lv_icmp_ge (tgt := 81) hx hb dX11_digest_44 (by decide) (fun c21 => ?_) (fun c21 => ?_)
            · exact absurd c21 (nI_ge (by omega) (by omega))
            · have d21 := Int32.not_le.mp c21
              refine lv_iconst (v := 0) hx hb dX11_digest_47 (by decide) ?_
              refine lv_istore (lv' := [(4, .int 0), (3, .int (nI k36)), (1, .long z36_1), (0, .ref (B 0))]) hx hb dX11_digest_48 hl (by decide) rfl (fun ls hl => ?_)
              have loop50 : ∀ (n50 k50 : Nat), k50 + n50 = 5 → ∀ (z50_1 : Int64), z50_1 = fl k50 (fun w d => sd d (mOb f k36 (nI w))) (fl k36 (fun i d => fl 5 (fun w d => sd d (mOb f i (nI w))) d) (md1 f g)) → ∀ (ls : Array Slot), lv_has ls 5 [(4, .int (nI k50)), (1, .long z50_1), (0, .ref (B 0)), (3, .int (nI k36))] → W pZ l eZ ({ frames := 8, cells := 20, slots := 180, locals := 190 } : Room) sZ mZ ([.ref (B 0)] : List Value).toArray bZ meZ cZ H2 locs2 20 (9 * 20) (mw_Q bZ D H [.ref (B 0)] sZ 20 180 (fun v t => v = some (.long (md5 f g)) ∧ MP G B 0 mc cp f g t)) (F0 mZ 50 ls []) := by
                intro n50
                induction n50 with
                | zero =>
                  intro k50 hk50 z50_1 ez50_1 ls hl
                  obtain rfl : k50 = 5 := by omega
                  refine lv_iload hx hb dX11_digest_50 (lv_at hl 0 rfl) ?_
                  refine lv_iconst (v := 5) hx hb dX11_digest_52 (by decide) ?_
                  refine lv_icmp_ge (tgt := 75) hx hb dX11_digest_53 (by decide) (fun c22 => ?_) (fun c22 => ?_)
                  · have d22 := Int32.not_lt.mpr c22
                    refine lv_iinc (v := nI (k36 + 1)) (lv' := [(3, .int (nI (k36 + 1))), (4, .int (nI 5)), (1, .long z50_1), (0, .ref (B 0))]) hx hb dX11_digest_75 hl (k := 3) rfl (nI_inc _) (by decide) rfl (fun ls hl => ?_)
                    refine lv_goto (tgt := 36) hx hb dX11_digest_78 (by decide) ?_
                    exact ih36 (k36 + 1) (by omega) _ (by subst ez50_1; subst ez36_1; subst ez11_1; rfl) ls (lv_sub hl [0, 2, 3] rfl)
                  · have c22 : ¬ (nI 5 ≤ nI 5) := c22; exact absurd (nI_le (by omega) (by omega)) c22
                | succ n50 ih50 =>
                  intro k50 hk50 z50_1 ez50_1 ls hl
                  refine lv_iload hx hb dX11_digest_50 (lv_at hl 0 rfl) ?_
                  refine lv_iconst (v := 5) hx hb dX11_digest_52 (by decide) ?_
                  refine lv_icmp_ge (tgt := 75) hx hb dX11_digest_53 (by decide) (fun c23 => ?_) (fun c23 => ?_)
                  · have c23 : nI 5 ≤ nI k50 := c23; exact absurd c23 (nI_ge (by omega) (by omega))
                  · have d23 := Int32.not_le.mp c23
                    refine lv_lload_n hx hb dX11_digest_56 rfl (lv_at hl 1 rfl) ?_
                    refine lv_aload_n hx hb dX11_digest_57 rfl (lv_at hl 2 rfl) ?_
                    refine lv_iload_n hx hb dX11_digest_58 rfl (lv_at hl 3 rfl) ?_
                    refine lv_iload hx hb dX11_digest_59 (lv_at hl 0 rfl) ?_
                    refine rd_V (As := [.int (nI k36), .int (nI k50)]) (rest := [.long z50_1]) (v := some (.int (mOb f k36 (nI k50)))) S hG2 (c_X11_ofObstacleNow l G B 0 mc cp f g H2 hM2 k36 (nI k50) (by omega)) gX11_digest_X11_ofObstacleNow rfl ⟨rfl, rfl⟩ nmX11_ofObstacleNow ⟨Nat.le_of_ble_eq_true rfl, Nat.le_of_ble_eq_true rfl⟩ (rd_rcv hG2.1 (mP_0 hM2) rfl) rfl hl.1 rfl (Nat.le_of_ble_eq_true rfl) ⟨by show 20 ≤ 20; omega, by show 9 * 20 ≤ 180; omega⟩ dX11_digest_61 ?_
                    refine W.eq (g2 := F0 mZ 64 ls [.int (mOb f k36 (nI k50)), .long z50_1]) rfl ?_
                    refine lv_i2l (v := (mOb f k36 (nI k50)).toInt64) hx hb dX11_digest_64 rfl ?_
                    refine rd_S (As := [.long z50_1, .long ((mOb f k36 (nI k50)).toInt64)]) (rest := []) (v := some (.long (sd z50_1 (mOb f k36 (nI k50))))) S hG2 (c_X11_add l G H2 z50_1 ((mOb f k36 (nI k50)).toInt64)) gX11_digest_X11_add rfl ⟨rfl, rfl⟩ nmX11_add ⟨Nat.le_of_ble_eq_true rfl, Nat.le_of_ble_eq_true rfl⟩ rfl hl.1 rfl (Nat.le_of_ble_eq_true rfl) ⟨by show 20 ≤ 20; omega, by show 9 * 20 ≤ 180; omega⟩ dX11_digest_65 ?_
                    refine W.eq (g2 := F0 mZ 68 ls [.long (sd z50_1 (mOb f k36 (nI k50)))]) rfl ?_
                    refine lv_topl (fun x24 ex24 => ?_)
                    refine lv_lstore_n (lv' := [(1, .long x24), (4, .int (nI k50)), (0, .ref (B 0)), (3, .int (nI k36))]) hx hb dX11_digest_68 rfl hl (by decide) rfl (fun ls hl => ?_)
                    refine lv_iinc (v := nI (k50 + 1)) (lv' := [(4, .int (nI (k50 + 1))), (1, .long x24), (0, .ref (B 0)), (3, .int (nI k36))]) hx hb dX11_digest_69 hl (k := 1) rfl (nI_inc _) (by decide) rfl (fun ls hl => ?_)
                    refine lv_goto (tgt := 50) hx hb dX11_digest_72 (by decide) ?_
                    exact ih50 (k50 + 1) (by omega) _ (by subst ex24; subst ez50_1; subst ez36_1; subst ez11_1; rfl) ls (lv_sub hl [0, 1, 2, 3] rfl)
              exact loop50 5 0 (by omega) _ (by subst ez36_1; subst ez11_1; first | rfl | first | rfl | (simp only [fl, c3, d3, c21, d21, ne_eq, not_true_eq_false, not_false_eq_true, and_true, true_and, and_false, false_and, or_true, true_or, or_false, false_or, and_self, or_self, decide_eq_true_eq, ↓reduceIte]; done) | (simp only [fl, c3, d3, c21, d21, ne_eq, not_true_eq_false, not_false_eq_true, and_true, true_and, and_false, false_and, or_true, true_or, or_false, false_or, and_self, or_self, decide_eq_true_eq, ↓reduceIte]; rfl) | (simp [fl, c3, d3, c21, d21]; done) | (simp only [fl, c3, d3, c21, d21, ne_eq, not_true_eq_false, not_false_eq_true, and_true, true_and, and_false, false_and, or_true, true_or, or_false, false_or, and_self, or_self, decide_eq_true_eq, ↓reduceIte])) ls (lv_sub hl [0, 2, 3, 1] rfl)
        exact loop36 (g 1) 0 (by omega) _ (by subst ez11_1; first | rfl | first | rfl | (simp only [fl, c3, d3, ne_eq, not_true_eq_false, not_false_eq_true, and_true, true_and, and_false, false_and, or_true, true_or, or_false, false_or, and_self, or_self, decide_eq_true_eq, ↓reduceIte]; done) | (simp only [fl, c3, d3, ne_eq, not_true_eq_false, not_false_eq_true, and_true, true_and, and_false, false_and, or_true, true_or, or_false, false_or, and_self, or_self, decide_eq_true_eq, ↓reduceIte]; rfl) | (simp [fl, c3, d3]; done) | (simp only [fl, c3, d3, ne_eq, not_true_eq_false, not_false_eq_true, and_true, true_and, and_false, false_and, or_true, true_or, or_false, false_or, and_self, or_self, decide_eq_true_eq, ↓reduceIte])) ls (lv_sub hl [0, 1, 2] rfl)
      · have c3 : ¬ (nI 20 ≤ nI 20) := c3; exact absurd (nI_le (by omega) (by omega)) c3
    | succ n11 ih11 =>
      intro k11 hk11 z11_1 ez11_1 H2 locs2 hS2 hM2 hG2 ls hl
      refine lv_iload_n hx hb dX11_digest_11 rfl (lv_at hl 0 rfl) ?_
      refine lv_bipush (v := 20) hx hb dX11_digest_12 (by decide) ?_
      refine lv_icmp_ge (tgt := 34) hx hb dX11_digest_14 (by decide) (fun c25 => ?_) (fun c25 => ?_)
      · have c25 : nI 20 ≤ nI k11 := c25; exact absurd c25 (nI_ge (by omega) (by omega))
      · have d25 := Int32.not_le.mp c25
        refine lv_lload_n hx hb dX11_digest_17 rfl (lv_at hl 1 rfl) ?_
        refine lv_aload_n hx hb dX11_digest_18 rfl (lv_at hl 2 rfl) ?_
        refine lv_iload_n hx hb dX11_digest_19 rfl (lv_at hl 0 rfl) ?_
        refine mw_V (As := [.int (nI k11)]) (rest := [.long z11_1]) S hD hGX hG2 hS2 (c_X11_manyNow l G B 0 mc cp f g H2 hM2 (Nat.le_trans (hD.2 _ (hD.1 _ (Nat.le_refl _))) hS2.1) k11 (by omega)) (fun q h => hD.1 q (Nat.le_trans hS2.1 h)) gX11_digest_X11_manyNow rfl ⟨rfl, rfl⟩ nmX11_manyNow ⟨Nat.le_of_ble_eq_true rfl, Nat.le_of_ble_eq_true rfl⟩ (rd_rcv hG2.1 (mP_0 hM2) rfl) rfl hl.1 rfl (Nat.le_of_ble_eq_true rfl) ⟨by show k11 + 1 ≤ 20; omega, by show 9 * k11 + 9 ≤ 180; omega⟩ dX11_digest_20 (fun H26 locs26 v26 hS26 hs26 hP26 hG26 => ?_)
        obtain ⟨hv26, hx26⟩ := hP26
        subst hv26
        have hM26 := mp_ext hM2 hx26
        refine W.eq (g2 := F0 mZ 23 ls [.int (mMa f g k11), .long z11_1]) rfl ?_
        refine lv_i2l (v := (mMa f g k11).toInt64) hx hb dX11_digest_23 rfl ?_
        refine rd_S (As := [.long z11_1, .long ((mMa f g k11).toInt64)]) (rest := []) (v := some (.long (sd z11_1 (mMa f g k11)))) S hG26 (c_X11_add l G H26 z11_1 ((mMa f g k11).toInt64)) gX11_digest_X11_add rfl ⟨rfl, rfl⟩ nmX11_add ⟨Nat.le_of_ble_eq_true rfl, Nat.le_of_ble_eq_true rfl⟩ rfl hl.1 rfl (Nat.le_of_ble_eq_true rfl) ⟨by show k11 + 1 ≤ 20; omega, by show 9 * k11 + 9 ≤ 180; omega⟩ dX11_digest_24 ?_
        refine W.eq (g2 := F0 mZ 27 ls [.long (sd z11_1 (mMa f g k11))]) rfl ?_
        refine lv_topl (fun x27 ex27 => ?_)
        refine lv_lstore_n (lv' := [(1, .long x27), (3, .int (nI k11)), (0, .ref (B 0))]) hx hb dX11_digest_27 rfl hl (by decide) rfl (fun ls hl => ?_)
        refine lv_iinc (v := nI (k11 + 1)) (lv' := [(3, .int (nI (k11 + 1))), (1, .long x27), (0, .ref (B 0))]) hx hb dX11_digest_28 hl (k := 1) rfl (nI_inc _) (by decide) rfl (fun ls hl => ?_)
        refine lv_goto (tgt := 11) hx hb dX11_digest_31 (by decide) ?_
        exact ih11 (k11 + 1) (by omega) _ (by subst ex27; subst ez11_1; rfl) _ _ hS26 hM26 hG26 ls (lv_sub hl [0, 1, 2] rfl)
  exact loop11 20 0 (by omega) _ (by first | rfl | first | rfl | (simp only [fl, true_and, ne_eq, not_true_eq_false, not_false_eq_true, and_true, true_and, and_false, false_and, or_true, true_or, or_false, false_or, and_self, or_self, decide_eq_true_eq, ↓reduceIte]; done) | (simp only [fl, true_and, ne_eq, not_true_eq_false, not_false_eq_true, and_true, true_and, and_false, false_and, or_true, true_or, or_false, false_or, and_self, or_self, decide_eq_true_eq, ↓reduceIte]; rfl) | (simp [fl, true_and]; done) | (simp only [fl, true_and, ne_eq, not_true_eq_false, not_false_eq_true, and_true, true_and, and_false, false_and, or_true, true_or, or_false, false_or, and_self, or_self, decide_eq_true_eq, ↓reduceIte])) _ _ hS1 hM1 hG1 ls (lv_sub hl [0, 1, 2] rfl)

