/-! constructors of a list, from the top -/
theorem nmJxa1e45_init_da8c8 : nmV yJxa1e45_init_da8c8 RJxa1e45 0 := by decide +kernel
theorem c_acol (l : Launch) (G : GT) (D : Nat → Prop) (H : Heap) (o : Nat) : MwV l G D H yJxa1e45_init_da8c8 wsJxa1e45_init_da8c8 { frames := 1, cells := 0, slots := 0, locals := 12 } [.ref o] 0 0 (fun v t => v = none ∧ t = H) := by
  refine mw_of (cc := cJxa1e45_init_da8c8) (maxL := 1) (ret := none) (by decide) rfl (Nat.le_of_ble_eq_true rfl) ?_
  intro pZ eZ sZ mZ bZ meZ cZ ls S hr hlk hl hHs hG hGX
  have S : CallFix pZ mZ cZ cJxa1e45_init_da8c8 1 sZ _ wsJxa1e45_init_da8c8 RJxa1e45 := S
  have hx := S.1
  have hb := S.2.1
  have hts := S.2.2.2.2
  have hl : lv_has ls 1 [(0, .ref o)] := hl
  have hS : va_S D H H [] := va_S.rf
  refine lv_aload_n hx hb dJxa1e45_init_da8c8_0 rfl (lv_at hl 0 rfl) ?_
  refine W.objInit hx hb S.2.2.2.1 (hts (.methodLink RJxa1e45 1 objectInit) (by decide +kernel)) (hts (.instanceMethod objectInit) (by decide +kernel)) (hts (.code objectInit ⟨#[0xb1]⟩ 1 none) (by decide +kernel)) rfl (hl.1.trans S.2.2.1.symm) rfl dJxa1e45_init_da8c8_1 (Nat.le_of_ble_eq_true rfl) (Nat.le_of_ble_eq_true rfl) ?_
  refine W.eq (g2 := F0 mZ 4 ls []) rfl ?_
  exact mw_vret S hr hlk hS ⟨Nat.zero_le _, Nat.zero_le _⟩ dJxa1e45_init_da8c8_4 ⟨rfl, rfl⟩
