/-! add(e): into the array that is, or a grown one -/
section QRF
variable {p : Program} {l : Launch} {e : Env} {R : Room} {s : State} {m : MethodId} {args : Array Value} {below : List Frame} {meth : Method} {c : Code} {H H1 : Heap} {locs : List Loc} {cells slots : Nat} {Q : State → Prop}
variable {Ts : List Cond} {cc : ByteArray} {nL index : Nat} {own C : String} {a pc : Nat} {rest : List Value} {ls : Array Slot} {G : GT} {D : Nat → Prop}
/-- a field by a class that has it from another -/
theorem mw_putfR {ref : String} {T : u_T} {N ci : Nat} {fs : List Value} {ty : FieldType} {x : Value} (S : CallFix p m c cc nL s args Ts own) (hD : DP G D H.size) (hG : GK G H1 s) (hS : va_S D H H1 locs) (hda : D a) (hin : ∀ w ∈ u_ws C T N, w ∈ Ts) (ty0 : Nat → FieldType) (hty : ∀ k, k < N → parseFieldDescriptor (T k).2.2.1 = some (ty0 k)) (hnm : ∀ a, a < N → ∀ b, b < N → a ≠ b → (T a).2.1 ≠ (T b).2.1)
    (hat : va_at G.1 vwCl (a, .inr (ci, fs)) H1) (k : Nat) (hc : vwCl[ci]? = some (C, T, N)) (hk : k < N) (hlink : (Cond.fieldLink own index ref (T k).2.1 (T k).2.2.1).before args s = true) (hsame : ∀ x, s.fieldFound? (T k).1 (T k).2.1 (T k).2.2.1 = some x → s.fieldFound? ref (T k).2.1 (T k).2.2.1 = some x) (hfin : (T k).2.2.2 = false) (hd : parseFieldDescriptor (T k).2.2.1 = some ty) (hn : narrow ty x = x) (hfit : fits ty x = true) (hl : k < fs.length)
    (hdg : decode cc pc = .ok (.putfield index, 3)) (kk : ∀ (H2 : Heap) (locs2 : List Loc), va_at G.1 vwCl (a, .inr (ci, fs.set k x)) H2 → H2.size = H1.size → (∀ q : Nat, q ≠ a → H2[q]? = H1[q]?) → va_S D H H2 locs2 → GK G H2 s → W p l e R s m args below meth c H2 locs2 cells slots Q (F0 m (pc + 3) ls rest)) : W p l e R s m args below meth c H1 locs cells slots Q (F0 m pc ls (x :: .ref a :: rest)) := by
  have hap := va_apart (own := own) S.2.2.2.2 hin ty0 hty hnm hG.1.1 hc
  obtain ⟨r, h1, cell, q1, q2, q3, q4⟩ := hat
  have hr : r = (C, T, N) := Option.some.inj (h1.symm.trans hc)
  subst hr
  obtain ⟨hSl, hfc, kC, hkC, hkind⟩ := hG.1.1.1 ci _ hc
  obtain ⟨cf, kf, fi, fd, hi, hsl⟩ := hSl k hk
  have hlay := S.2.2.2.2 _ (hin _ (u_in_lay hk))
  unfold u_lay at hlay
  rw [if_neg (by rw [hfin]; decide)] at hlay
  have hst := (u_facts hfc hkC (u_lays S.2.2.2.2 hin hk) hi).1
  have h6 := u_store hfc hkC hkind hlay hi hd hn hfit
  refine W.putK S.1 S.2.1 (f := fd) ⟨S.2.2.2.1, hlink, ⟨_, _, _, hsame _ hi⟩, hst⟩ (by rw [q2]; exact h6) q1 q3 (by rw [hsl]; exact k2_hasslot (q4 k hk)) rfl rfl hdg fun H2 e1 e2 e3 => ?_
  rw [hsl] at e1 ⊢
  exact kk H2 _ ⟨_, hc, t_OB.to (V := updV (vp_V fs) k x) ⟨_, e1, q2, q3, t_set q4 hap hk x⟩ (fun j _ => vp_updV_set hl x j)⟩ e2 e3 (hS.put e2 e3 hda) (hG.heap fun q _ hz => e3 q fun e => hz (by rw [e]; exact hD.2 a hda))
end QRF
theorem up_eq {r : Nat → Option Nat} {n x : Nat} : va_up r n (some x) = fun i => if i = n then some x else r i := by
  funext i
  by_cases h : i = n <;> simp [va_up, h]
theorem cp_eq {r : Nat → Option Nat} {n : Nat} (hr0 : ∀ i, n ≤ i → r i = none) : va_cpy r (fun _ => none) 0 0 n = r := by
  funext i
  unfold va_cpy
  by_cases h : i < n
  · rw [if_pos (by omega), Nat.zero_add, Nat.sub_zero]
  · rw [if_neg (by omega), hr0 i (by omega)]
/-- how long a list's array gets -/
abbrev cG (c : Nat) : Prop := c = 10 ∨ c = 15 ∨ c = 22 ∨ c = 33
abbrev adQ (G : GT) (H : Heap) (h a n x : Nat) (mc : Int32) (r : Nat → Option Nat) (v : Option Value) (t : Heap) : Prop := v = some (.int 1) ∧ ∃ a' cap' : Nat, (n + 1 ≤ cap' ∧ cG cap') ∧ (a' = a ∨ H.size ≤ a') ∧ va_at G.1 vwCl (h, lsO (mc + 1) a' (n + 1)) t ∧ va_at G.1 vwCl (a', .inl (G.2.1 1, gRef cap' (fun i => if i = n then some x else r i))) t ∧ H.size ≤ t.size ∧ ∀ q : Nat, q < H.size → q ≠ h → q ≠ a → t[q]? = H[q]?
set_option maxHeartbeats 1000000 in
theorem c_add1 (l : Launch) (G : GT) (D : Nat → Prop) (H : Heap) (hD : DP G D H.size) (h : Nat) (hDh : D h) (mc : Int32) (a n x : Nat) (r : Nat → Option Nat) (h1 : va_at G.1 vwCl (h, lsO mc a n) H)
    (D1 : Heap → Nat → Prop) (hD1 : ∀ H1 : Heap, H1.size = H.size → ∀ q, D1 H1 q → D q) (hin : ∀ H1 : Heap, va_at G.1 vwCl (h, lsO (mc + 1) a n) H1 → H1.size = H.size → (∀ q : Nat, q ≠ h → H1[q]? = H[q]?) → MwV l G (D1 H1) H1 yJx4a65c_add_72be8 wsJx4a65c_add_72be8 { frames := 6, cells := 1, slots := 40, locals := 160 } [.ref h, .ref x, .ref a, .int (nI n)] 1 40 (fun v t => v = none ∧ adQ G H h a n x mc r (some (.int 1)) t)) :
    MwV l G D H yJx4a65c_add_9ea2d wsJx4a65c_add_9ea2d { frames := 7, cells := 1, slots := 40, locals := 190 } [.ref h, .ref x] 1 40 (adQ G H h a n x mc r) := by
  refine mw_of (cc := cJx4a65c_add_9ea2d) (maxL := 2) (ret := (some .boolean)) (by decide) rfl (Nat.le_of_ble_eq_true rfl) ?_
  intro pZ eZ sZ mZ bZ meZ cZ ls S hr hlk hl hHs hG hGX
  have S : CallFix pZ mZ cZ cJx4a65c_add_9ea2d 2 sZ _ wsJx4a65c_add_9ea2d RJx4a65c := S
  have hx := S.1
  have hb := S.2.1
  have hts := S.2.2.2.2
  have hl : lv_has ls 2 [(0, .ref h), (1, .ref x)] := hl
  have hS : va_S D H H [] := va_S.rf
  have iL : ∀ w ∈ u_ws RJx4a65c TJx4a65c 3, w ∈ wsJx4a65c_add_9ea2d := by decide +kernel
  have w0 := hts (.fieldLink RJx4a65c 63 "java/util/ArrayList" "modCount" "I") (by decide +kernel)
  have wS := hts (.sameField "java/util/ArrayList" "java/util/AbstractList" "modCount" "I") (by decide +kernel)
  have w1 := hts (.fieldLink RJx4a65c 9 "java/util/ArrayList" "elementData" "[Ljava/lang/Object;") (by decide +kernel)
  have w2 := hts (.fieldLink RJx4a65c 48 "java/util/ArrayList" "size" "I") (by decide +kernel)
  refine lv_aload_n hx hb dJx4a65c_add_9ea2d_0 rfl (lv_at hl 0 rfl) ?_
  refine lv_dup hx hb dJx4a65c_add_9ea2d_1 rfl ?_
  refine va_get (v := .int mc) hx hb hts iL S.2.2.2.1 hG.1.1 (q_P1 h1) 0 rfl rfl 0 (by decide) w0 (fun x9 h9 => u_same wS x9 h9) rfl dJx4a65c_add_9ea2d_2 ?_
  refine lv_iconst (v := 1) hx hb dJx4a65c_add_9ea2d_5 (by decide) ?_
  refine lv_iadd hx hb dJx4a65c_add_9ea2d_6 ?_
  refine mw_putfR (ty := .int) S hD hG hS hDh iL tyJx4a65c tyJx4a65c_ok nmJx4a65c h1 0 rfl (by decide) w0 (fun x9 h9 => u_same wS x9 h9) rfl (by decide +kernel) rfl rfl (Nat.le_of_ble_eq_true rfl) dJx4a65c_add_9ea2d_7 (fun H1 locs1 hn1 hz1 hq1 hS1 hG1 => ?_)
  have h11 : va_at G.1 vwCl (h, lsO (mc + 1) a n) H1 := hn1
  refine lv_aload_n hx hb dJx4a65c_add_9ea2d_10 rfl (lv_at hl 0 rfl) ?_
  refine lv_aload_n hx hb dJx4a65c_add_9ea2d_11 rfl (lv_at hl 1 rfl) ?_
  refine lv_aload_n hx hb dJx4a65c_add_9ea2d_12 rfl (lv_at hl 0 rfl) ?_
  refine rd_get (own := RJx4a65c) (x := .ref a) S hG1.1 iL h11 1 rfl (by decide) w1 rfl dJx4a65c_add_9ea2d_13 ?_
  refine lv_aload_n hx hb dJx4a65c_add_9ea2d_16 rfl (lv_at hl 0 rfl) ?_
  refine rd_get (own := RJx4a65c) (x := .int (nI n)) S hG1.1 iL h11 2 rfl (by decide) w2 rfl dJx4a65c_add_9ea2d_17 ?_
  refine mw_V (As := [.ref x, .ref a, .int (nI n)]) (rest := []) S hD hGX hG1 hS1 (hin H1 h11 hz1 hq1) (hD1 H1 hz1) gJx4a65c_add_9ea2d_Jx4a65c_add_72be8 rfl ⟨rfl, rfl⟩ nmJx4a65c_add_72be8 ⟨Nat.le_of_ble_eq_true rfl, Nat.le_of_ble_eq_true rfl⟩ (rd_rcv hG1.1 h11 rfl) rfl hl.1 rfl (Nat.le_of_ble_eq_true rfl) ⟨Nat.le_of_ble_eq_true rfl, Nat.le_of_ble_eq_true rfl⟩ dJx4a65c_add_9ea2d_20 (fun H2 locs2 v hS2 hs2 hP2 hG2 => ?_)
  obtain ⟨hv, hq⟩ := hP2
  subst hv
  refine W.eq (g2 := F0 mZ 23 ls []) rfl ?_
  refine lv_iconst (v := 1) hx hb dJx4a65c_add_9ea2d_23 (by decide) ?_
  exact mw_zret S hr rfl hlk hS2 ⟨Nat.le_of_ble_eq_true rfl, Nat.le_of_ble_eq_true rfl⟩ dJx4a65c_add_9ea2d_24 hq
