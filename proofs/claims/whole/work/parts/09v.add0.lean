/-! add(e) to the empty list -/
theorem c_add_0 (l : Launch) (G : GT) (D : Nat → Prop) (H : Heap) (hD : DP G D H.size) (h : Nat) (hDh : D h) (mc : Int32) (x : Nat) (hah : G.2.2.2 0 ≠ h) (C : String) (hC : Cond.castable C "java/lang/Object" ∈ tables_1) (h1 : va_at G.1 vwCl (h, lsO mc (G.2.2.2 0) 0) H) (h2 : stE G H) (hxh : x ≠ h) (hel : elC G H C 1 (fun _ => some x)) :
    MwV l G D H yJx4a65c_add_9ea2d wsJx4a65c_add_9ea2d { frames := 7, cells := 1, slots := 40, locals := 190 } [.ref h, .ref x] 1 40 (adQ G H h (G.2.2.2 0) 0 x mc (fun _ => none)) := by
  have hzz : G.2.2.1 ≤ H.size := hD.2 _ (hD.1 _ (Nat.le_refl _))
  have hzh := hD.2 _ hDh
  refine c_add1 l G D H hD h hDh mc (G.2.2.2 0) 0 x (fun _ => none) h1 (fun H1 q => q = h ∨ H1.size ≤ q) (fun H1 e q hq => hq.elim (fun e2 => by rw [e2]; exact hDh) (fun h9 => hD.1 q (by rw [← e]; exact h9))) (fun H1 h11 hz1 hq1 => ?_)
  have h21 := h2.kept (hq1 _ hah)
  have hzz1 : G.2.2.1 ≤ H1.size := by rw [hz1]; exact hzz
  refine mw_mono (c_add3_g l G H1 hzz1 h hzh (mc + 1) (G.2.2.2 0) 0 10 x (fun _ => none) (fun _ => none) C hC (by omega) (by omega) h11 h21 hxh (elC_one hel hxh hq1) (c_grow_d l G H1 hzz1 h hzh (mc + 1) (G.2.2.2 0) 0 h11 _ (fun v t hP => hP.1) (c_grow_0 l G H1 hzz1 h hzh (mc + 1) h11))) (fun q h => h) (fun v t hP => ?_)
  obtain ⟨p1, p2, p3, p4, p5⟩ := hP
  rw [up_eq] at p3
  exact ⟨p1, rfl, H1.size, 10, ⟨by omega, Or.inl rfl⟩, Or.inr (by omega), p2, p3, by omega, fun q hq hqh hqa => (p5 q (by omega) hqh).trans (hq1 q hqh)⟩
