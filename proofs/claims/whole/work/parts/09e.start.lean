/-! ===== writes to the reference's own cells ===== -/
/-- the reference's cells lie among those that may be written, apart -/
def DB (D : Nat → Prop) (B : Nat → Nat) (cp g : Nat → Nat) : Prop := (∀ k, mD cp g k → D (B k)) ∧ ∀ j k, mD cp g j → mD cp g k → B j = B k → j = k
theorem mp_one {G : GT} {D : Nat → Prop} {B : Nat → Nat} {th th' : Int32} {mc : Nat → Int32} {cp : Nat → Nat} {f f' : Nat → Nat → Int32} {g g' : Nat → Nat} {H H1 : Heap} {k : Nat} (hM : MP G B th mc cp f g H) (hB : DB D B cp g) (hk : mD cp g k) (hn : va_at G.1 vwCl (B k, mC G B th' mc cp f' g' k) H1) (ho : ∀ q : Nat, q ≠ B k → H1[q]? = H[q]?) (hs : ∀ j, mD cp g j → j ≠ k → mC G B th' mc cp f' g' j = mC G B th mc cp f g j) (hI : MI cp f' g') (hd : ∀ j, mD cp g' j → mD cp g j) : MP G B th' mc cp f' g' H1 := by
  refine ⟨hI, fun j hj => ?_⟩
  by_cases e : j = k
  · subst e; exact hn
  · rw [hs j (hd j hj) e]; exact (hM.2 j (hd j hj)).kept (ho (B j) fun q => e (hB.2 j k (hd j hj) hk q))
theorem mC_0 {G : GT} {B : Nat → Nat} {th th' : Int32} {mc : Nat → Int32} {cp : Nat → Nat} {f : Nat → Nat → Int32} {g : Nat → Nat} {j : Nat} (h : j ≠ 0) : mC G B th' mc cp f g j = mC G B th mc cp f g j := by
  unfold mC
  rw [if_neg h, if_neg h]
section QMP
variable {p : Program} {l : Launch} {e : Env} {R : Room} {s : State} {m : MethodId} {args : Array Value} {below : List Frame} {meth : Method} {c : Code} {H H1 : Heap} {locs : List Loc} {cells slots : Nat} {Q : State → Prop}
variable {Ts ws ws' : List Cond} {cc bytes : ByteArray} {nL maxL index n : Nat} {own C : String} {y : MethodName} {ret : Option FieldType} {rm : Room} {b a pc nc ns ncc nss : Nat} {As rest st0 : List Value} {ls : Array Slot} {G : GT} {v : Option Value} {av : List Value} {D D1 : Nat → Prop} {P : Option Value → Heap → Prop}
theorem mw_putf {T : u_T} {N ci : Nat} {fs : List Value} {ty : FieldType} {x : Value} (S : CallFix p m c cc nL s args Ts own) (hD : DP G D H.size) (hG : GK G H1 s) (hS : va_S D H H1 locs) (hda : D a) (hin : ∀ w ∈ u_ws C T N, w ∈ Ts) (ty0 : Nat → FieldType) (hty : ∀ k, k < N → parseFieldDescriptor (T k).2.2.1 = some (ty0 k)) (hnm : ∀ a, a < N → ∀ b, b < N → a ≠ b → (T a).2.1 ≠ (T b).2.1)
    (hat : va_at G.1 vwCl (a, .inr (ci, fs)) H1) (k : Nat) (hc : vwCl[ci]? = some (C, T, N)) (hk : k < N) (hlink : (Cond.fieldLink own index (T k).1 (T k).2.1 (T k).2.2.1).before args s = true) (hfin : (T k).2.2.2 = false) (hd : parseFieldDescriptor (T k).2.2.1 = some ty) (hn : narrow ty x = x) (hfit : fits ty x = true) (hl : k < fs.length)
    (hdg : decode cc pc = .ok (.putfield index, 3)) (kk : ∀ (H2 : Heap) (locs2 : List Loc), va_at G.1 vwCl (a, .inr (ci, fs.set k x)) H2 → H2.size = H1.size → (∀ q : Nat, q ≠ a → H2[q]? = H1[q]?) → va_S D H H2 locs2 → GK G H2 s → W p l e R s m args below meth c H2 locs2 cells slots Q (F0 m (pc + 3) ls rest)) : W p l e R s m args below meth c H1 locs cells slots Q (F0 m pc ls (x :: .ref a :: rest)) := by
  refine wr_putf S hG.1 hin ty0 hty hnm hat k hc hk hlink hfin hd hn hfit hl hdg fun H2 z hz hn2 e2 e3 => ?_
  refine kk H2 _ hn2 e2 e3 ⟨Nat.le_trans hS.1 (Nat.le_of_eq e2.symm), fun q hq hnq => (e3 q fun e => hnq (by rw [e]; exact hda)).trans (hS.2.1 q hq hnq), fun q hq => ?_⟩ (hG.heap fun q _ hzq => e3 q fun e => hzq (by rw [e]; exact hD.2 a hda))
  rcases List.mem_append.mp hq with h | h
  · exact hS.2.2 q h
  · rw [List.mem_singleton.mp h, hz]; exact hda
end QMP
theorem dp_le {G : GT} {D : Nat → Prop} {n n2 : Nat} (h : DP G D n) (hn : n ≤ n2) : DP G D n2 := ⟨fun q hq => h.1 q (Nat.le_trans hn hq), h.2⟩
theorem nmX11_refuse : nmV yX11_refuse RX11 2 := by decide +kernel

set_option maxHeartbeats 1000000 in
set_option maxRecDepth 100000 in
theorem c_X11_refuse (l : Launch) (G : GT) (B : Nat → Nat) (th : Int32) (mc : Nat → Int32) (cp : Nat → Nat) (f : Nat → Nat → Int32) (g : Nat → Nat) (H : Heap) (hM : MP G B th mc cp f g H) (hth : th = 0) (D : Nat → Prop) (hD : DP G D H.size) (hB : DB D B cp g) (p : Prop) (dp : Decidable p) (w : Int32) (hw : 0 < w) : MwV l G D H yX11_refuse wsX11_refuse { frames := 0, cells := 0, slots := 0, locals := 0 } [.ref (B 0), .int (b2i (p)), .int w] 0 0 (fun v t => (p → v = some (.int 1) ∧ MP G B w mc cp f g t) ∧ (¬ p → v = some (.int 0) ∧ MP G B 0 mc cp f g t)) := by
  refine mw_of (cc := cX11_refuse) (maxL := 3) (ret := (some .boolean)) (by decide) rfl (Nat.le_of_ble_eq_true rfl) ?_
  intro pZ eZ sZ mZ bZ meZ cZ ls S hr hlk hl hHs hG hGX
  have S : CallFix pZ mZ cZ cX11_refuse 3 sZ _ wsX11_refuse RX11 := S
  have hx := S.1
  have hb := S.2.1
  have hown := S.2.2.2.1
  have hts := S.2.2.2.2
  have hl : lv_has ls 3 [(0, .ref (B 0)), (1, .int (b2i (p))), (2, .int w)] := hl
  have w0 := hts (.fieldLink RX11 35 "MinimaRoomModel" "thrown" "I") (by decide +kernel)
  have iX11 : ∀ w ∈ u_ws RX11 TX11 11, w ∈ wsX11_refuse := by decide +kernel
  have hS : va_S D H H [] := va_S.rf
  subst hth
  have hwn := Int32.not_le.mpr hw
  have hI := hM.1
  have hgb := hI.1.1
  have hg0 := hI.1.2.1
  have hg1 := hI.1.2.2.1
  have hg3 := hI.1.2.2.2.1
  have hg4 := hI.1.2.2.2.2.1
  have hg5 := hI.1.2.2.2.2.2
  refine lv_iload_n hx hb dX11_refuse_0 rfl (lv_at hl 1 rfl) ?_
  refine lv_if_eq (tgt := 16) hx hb dX11_refuse_1 (by decide) (fun c1 => ?_) (fun c1 => ?_)
  · have c1 := b2i_z.mp c1
    refine lv_aload_n hx hb dX11_refuse_16 rfl (lv_at hl 0 rfl) ?_
    refine rd_get (own := RX11) (x := .int 0) S hG.1 iX11 (mP_0 hM) 0 rfl (by decide) w0 rfl dX11_refuse_17 ?_
    refine lv_if_le (tgt := 27) hx hb dX11_refuse_20 (by decide) (fun _ => ?_) (fun c => absurd (by decide) c)
    refine lv_iconst (v := 0) hx hb dX11_refuse_27 (by decide) ?_
    exact mw_zret S hr (by first | rfl | exact nz_b2i _) hlk hS ⟨by show 0 ≤ 0; omega, by show 0 ≤ 0; omega⟩ dX11_refuse_28 ⟨fun hp => absurd hp c1, fun hp => ⟨rfl, hM⟩⟩
  · have c1 := b2i_nz.mp c1
    refine lv_aload_n hx hb dX11_refuse_4 rfl (lv_at hl 0 rfl) ?_
    refine rd_get (own := RX11) (x := .int 0) S hG.1 iX11 (mP_0 hM) 0 rfl (by decide) w0 rfl dX11_refuse_5 ?_
    refine lv_if_ne (tgt := 16) hx hb dX11_refuse_8 (by decide) (fun c => absurd c (by decide)) (fun _ => ?_)
    refine lv_aload_n hx hb dX11_refuse_11 rfl (lv_at hl 0 rfl) ?_
    refine lv_iload_n hx hb dX11_refuse_12 rfl (lv_at hl 2 rfl) ?_
    refine mw_putf (ty := .int) S hD hG hS (hB.1 _ (Or.inl (by decide) : mD cp g 0)) iX11 tyX11 tyX11_ok nmX11 (mP_0 hM) 0 rfl (by decide) w0 rfl (by decide +kernel) rfl rfl (Nat.le_of_ble_eq_true rfl) dX11_refuse_13 (fun H2 locs2 hn2 hz2 hq2 hS2 hG2 => ?_)
    have hM2 : MP G B w mc cp f g H2 := mp_one hM hB (Or.inl (by decide) : mD cp g 0) hn2 hq2 (fun j _ hj => mC_0 hj) hM.1 (fun _ h => h)
    refine lv_aload_n hx hb dX11_refuse_16 rfl (lv_at hl 0 rfl) ?_
    refine rd_get (own := RX11) (x := .int w) S hG2.1 iX11 (mP_0 hM2) 0 rfl (by decide) w0 rfl dX11_refuse_17 ?_
    refine lv_if_le (tgt := 27) hx hb dX11_refuse_20 (by decide) (fun c3 => ?_) (fun c3 => ?_)
    · first | exact absurd c3 hwn | exact absurd hwn c3 | exact absurd (Int32.not_lt.mp c3) (Int32.not_le.mpr hwn) | exact absurd (Int32.not_lt.mpr c3) (by simp only [Int32.not_lt]; exact hwn)
    · have d3 := Int32.not_le.mp c3
      refine lv_iconst (v := 1) hx hb dX11_refuse_23 (by decide) ?_
      refine lv_goto (tgt := 28) hx hb dX11_refuse_24 (by decide) ?_
      exact mw_zret S hr (by first | rfl | exact nz_b2i _) hlk hS2 ⟨by show 0 ≤ 0; omega, by show 0 ≤ 0; omega⟩ dX11_refuse_28 ⟨fun hp => ⟨rfl, hM2⟩, fun hp => absurd c1 hp⟩

theorem nmX11_start : nmV yX11_start RX11 2 := by decide +kernel

set_option maxHeartbeats 1000000 in
set_option maxRecDepth 100000 in
theorem c_X11_start (l : Launch) (G : GT) (B : Nat → Nat) (th : Int32) (mc : Nat → Int32) (cp : Nat → Nat) (f : Nat → Nat → Int32) (g : Nat → Nat) (H : Heap) (hM : MP G B th mc cp f g H) (D : Nat → Prop) (hD : DP G D H.size) (hB : DB D B cp g) (p : Prop) (dp : Decidable p) (w : Int32) (hw : 0 < w) : MwV l G D H yX11_start wsX11_start { frames := 1, cells := 0, slots := 0, locals := 22 } [.ref (B 0), .int (b2i (p)), .int w] 0 0 (fun v t => (p → v = some (.int 1) ∧ MP G B w mc cp f g t) ∧ (¬ p → v = some (.int 0) ∧ MP G B 0 mc cp f g t)) := by
  refine mw_of (cc := cX11_start) (maxL := 3) (ret := (some .boolean)) (by decide) rfl (Nat.le_of_ble_eq_true rfl) ?_
  intro pZ eZ sZ mZ bZ meZ cZ ls S hr hlk hl hHs hG hGX
  have S : CallFix pZ mZ cZ cX11_start 3 sZ _ wsX11_start RX11 := S
  have hx := S.1
  have hb := S.2.1
  have hown := S.2.2.2.1
  have hts := S.2.2.2.2
  have hl : lv_has ls 3 [(0, .ref (B 0)), (1, .int (b2i (p))), (2, .int w)] := hl
  have w0 := hts (.fieldLink RX11 35 "MinimaRoomModel" "thrown" "I") (by decide +kernel)
  have iX11 : ∀ w ∈ u_ws RX11 TX11 11, w ∈ wsX11_start := by decide +kernel
  have hS : va_S D H H [] := va_S.rf
  have hI := hM.1
  have hgb := hI.1.1
  have hg0 := hI.1.2.1
  have hg1 := hI.1.2.2.1
  have hg3 := hI.1.2.2.2.1
  have hg4 := hI.1.2.2.2.2.1
  have hg5 := hI.1.2.2.2.2.2
  refine lv_aload_n hx hb dX11_start_0 rfl (lv_at hl 0 rfl) ?_
  refine lv_iconst (v := 0) hx hb dX11_start_1 (by decide) ?_
  refine mw_putf (ty := .int) S hD hG hS (hB.1 _ (Or.inl (by decide) : mD cp g 0)) iX11 tyX11 tyX11_ok nmX11 (mP_0 hM) 0 rfl (by decide) w0 rfl (by decide +kernel) rfl rfl (Nat.le_of_ble_eq_true rfl) dX11_start_2 (fun H1 locs1 hn1 hz1 hq1 hS1 hG1 => ?_)
  have hM1 : MP G B 0 mc cp f g H1 := mp_one hM hB (Or.inl (by decide) : mD cp g 0) hn1 hq1 (fun j _ hj => mC_0 hj) hM.1 (fun _ h => h)
  refine lv_aload_n hx hb dX11_start_5 rfl (lv_at hl 0 rfl) ?_
  refine lv_iload_n hx hb dX11_start_6 rfl (lv_at hl 1 rfl) ?_
  refine lv_iload_n hx hb dX11_start_7 rfl (lv_at hl 2 rfl) ?_
  refine mw_V (As := [.int (b2i (p)), .int w]) (rest := []) S hD hGX hG1 hS1 (c_X11_refuse l G B 0 mc cp f g H1 hM1 rfl D (dp_le hD hS1.1) hB p dp w hw) (fun _ h => h) gX11_start_X11_refuse rfl ⟨rfl, rfl⟩ nmX11_refuse ⟨Nat.le_of_ble_eq_true rfl, Nat.le_of_ble_eq_true rfl⟩ (rd_rcv hG1.1 (mP_0 hM1) rfl) rfl hl.1 rfl (Nat.le_of_ble_eq_true rfl) ⟨by show 0 + 0 ≤ 0; omega, by show 0 + 0 ≤ 0; omega⟩ dX11_start_8 (fun H2 locs2 v2 hS2 hs2 hP2 hG2 => ?_)
  by_cases p2 : p
  · obtain ⟨hv2, hM2⟩ := hP2.1 p2
    subst hv2
    refine W.eq (g2 := F0 mZ 11 ls [.int 1]) rfl ?_
    exact mw_zret S hr (by first | rfl | exact nz_b2i _) hlk hS2 ⟨by show 0 ≤ 0; omega, by show 0 ≤ 0; omega⟩ dX11_start_11 ⟨fun hp => ⟨rfl, hM2⟩, fun hp => absurd p2 hp⟩
  · obtain ⟨hv2, hM2⟩ := hP2.2 p2
    subst hv2
    refine W.eq (g2 := F0 mZ 11 ls [.int 0]) rfl ?_
    exact mw_zret S hr (by first | rfl | exact nz_b2i _) hlk hS2 ⟨by show 0 ≤ 0; omega, by show 0 ≤ 0; omega⟩ dX11_start_11 ⟨fun hp => absurd hp p2, fun hp => ⟨rfl, hM2⟩⟩

