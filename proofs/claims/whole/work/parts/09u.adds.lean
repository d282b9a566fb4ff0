/-! add(e), by cases -/
theorem mw_mono {l : Launch} {G : GT} {D D' : Nat → Prop} {H : Heap} {y : MethodName} {ws : List Cond} {rm : Room} {av : List Value} {nc ns : Nat} {P P' : Option Value → Heap → Prop} (h : MwV l G D H y ws rm av nc ns P) (hD : ∀ q, D q → D' q) (hP : ∀ v t, P v t → P' v t) : MwV l G D' H y ws rm av nc ns P' := by
  intro p e ha hc hk s m args below hf happ hPre hK
  obtain ⟨n, o, h1, h2, h3, ⟨v, h4, h5, h6⟩, L, h7, h8⟩ := h p e ha hc hk s m args below hf happ hPre hK
  exact ⟨n, o, h1, h2, h3, ⟨v, h4, ⟨h5.1, fun q hq hn => h5.2.1 q hq fun z => hn (hD q z), fun _ z => nomatch z⟩, hP v _ h6⟩, L, h7, fun q hq => hD _ (h8 q hq)⟩
theorem elC_one {G : GT} {H H1 : Heap} {C : String} {x h : Nat} (hel : elC G H C 1 (fun _ => some x)) (hxh : x ≠ h) (hq : ∀ q : Nat, q ≠ h → H1[q]? = H[q]?) : elC G H1 C 1 (fun _ => some x) := fun u hu i y hi hy => by
  cases hy
  obtain ⟨cv, k1, k2⟩ := hel u hu i x hi rfl
  exact ⟨cv, by rw [hq x hxh]; exact k1, k2⟩
theorem c_add_s (l : Launch) (G : GT) (D : Nat → Prop) (H : Heap) (hD : DP G D H.size) (h : Nat) (hDh : D h) (mc : Int32) (a n cap x : Nat) (hDa : D a) (hah : a ≠ h) (r : Nat → Option Nat) (C : String) (hC : Cond.castable C "java/lang/Object" ∈ tables_1) (hn : n < cap) (hcg : cG cap) (h1 : va_at G.1 vwCl (h, lsO mc a n) H) (h2 : va_at G.1 vwCl (a, .inl (G.2.1 1, gRef cap r)) H) (hxh : x ≠ h) (hel : elC G H C 1 (fun _ => some x)) :
    MwV l G D H yJx4a65c_add_9ea2d wsJx4a65c_add_9ea2d { frames := 7, cells := 1, slots := 40, locals := 190 } [.ref h, .ref x] 1 40 (adQ G H h a n x mc r) := by
  have hzz : G.2.2.1 ≤ H.size := hD.2 _ (hD.1 _ (Nat.le_refl _))
  refine c_add1 l G D H hD h hDh mc a n x r h1 (fun H1 q => q = h ∨ q = a ∨ H1.size ≤ q) (fun H1 e q hq => hq.elim (fun e2 => by rw [e2]; exact hDh) (fun hq => hq.elim (fun e2 => by rw [e2]; exact hDa) (fun h9 => hD.1 q (by rw [← e]; exact h9)))) (fun H1 h11 hz1 hq1 => ?_)
  refine mw_mono (c_add3_s l G H1 (by rw [hz1]; exact hzz) h (hD.2 _ hDh) (mc + 1) a n cap x (hD.2 _ hDa) hah r C hC hn (by have h9 : cap = 10 ∨ cap = 15 ∨ cap = 22 ∨ cap = 33 := hcg; omega) h11 (h2.kept (hq1 _ hah)) (elC_one hel hxh hq1)) (fun q h => h) (fun v t hP => ?_)
  obtain ⟨p1, p2, p3, p4, p5⟩ := hP
  rw [up_eq] at p3
  exact ⟨p1, rfl, a, cap, ⟨hn, hcg⟩, Or.inl rfl, p2, p3, by omega, fun q _ hqh hqa => (p5 q hqh hqa).trans (hq1 q hqh)⟩
theorem c_add_N (l : Launch) (G : GT) (D : Nat → Prop) (H : Heap) (hD : DP G D H.size) (h : Nat) (hDh : D h) (mc : Int32) (a n z x : Nat) (hah : a ≠ h) (r : Nat → Option Nat) (hr0 : ∀ i, n ≤ i → r i = none) (C : String) (hC : Cond.castable C "java/lang/Object" ∈ tables_1) (hnz : (n = 10 ∧ z = 15) ∨ (n = 15 ∧ z = 22) ∨ (n = 22 ∧ z = 33)) (h1 : va_at G.1 vwCl (h, lsO mc a n) H) (h2 : va_at G.1 vwCl (a, .inl (G.2.1 1, gRef n r)) H) (hxh : x ≠ h) (hel : elC G H C 1 (fun _ => some x)) (hels : elC G H C n r) (hnh : ∀ i y, i < n → r i = some y → y ≠ h) :
    MwV l G D H yJx4a65c_add_9ea2d wsJx4a65c_add_9ea2d { frames := 7, cells := 1, slots := 40, locals := 190 } [.ref h, .ref x] 1 40 (adQ G H h a n x mc r) := by
  have hzz : G.2.2.1 ≤ H.size := hD.2 _ (hD.1 _ (Nat.le_refl _))
  have hzh := hD.2 _ hDh
  refine c_add1 l G D H hD h hDh mc a n x r h1 (fun H1 q => q = h ∨ H1.size ≤ q) (fun H1 e q hq => hq.elim (fun e2 => by rw [e2]; exact hDh) (fun h9 => hD.1 q (by rw [← e]; exact h9))) (fun H1 h11 hz1 hq1 => ?_)
  have h21 := h2.kept (hq1 _ hah)
  have hels1 : elC G H1 C n r := fun u hu i y hi hy => by
    obtain ⟨cv, k1, k2⟩ := hels u hu i y hi hy
    exact ⟨cv, by rw [hq1 y (hnh i y hi hy)]; exact k1, k2⟩
  have hzz1 : G.2.2.1 ≤ H1.size := by rw [hz1]; exact hzz
  refine mw_mono (c_add3_g l G H1 hzz1 h hzh (mc + 1) a n z x r r C hC (by omega) (by omega) h11 (alN.of h21) hxh (elC_one hel hxh hq1) (c_grow_d l G H1 hzz1 h hzh (mc + 1) a n h11 _ (fun v t hP => hP.1) (mw_mono (c_grow_N l G H1 hzz1 h hzh (mc + 1) a n z r C hC hnz h11 h21 hels1) (fun q h => h) (fun v t hP => by rw [cp_eq hr0] at hP; exact hP)))) (fun q h => h) (fun v t hP => ?_)
  obtain ⟨p1, p2, p3, p4, p5⟩ := hP
  rw [up_eq] at p3
  exact ⟨p1, rfl, H1.size, z, ⟨by omega, by show z = 10 ∨ z = 15 ∨ z = 22 ∨ z = 33; omega⟩, Or.inr (by omega), p2, p3, by omega, fun q hq hqh hqa => (p5 q (by omega) hqh).trans (hq1 q hqh)⟩
