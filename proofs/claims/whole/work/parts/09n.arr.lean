/-! ===== arrays of objects: new ones, and copies ===== -/
section QMA
variable {p : Program} {l : Launch} {e : Env} {R : Room} {s : State} {m : MethodId} {args : Array Value} {below : List Frame} {meth : Method} {c : Code} {H H1 : Heap} {locs : List Loc} {cells slots : Nat} {Q : State → Prop}
variable {Ts ws ws' : List Cond} {cc bytes : ByteArray} {nL maxL index : Nat} {own : String} {a pc : Nat} {rest : List Value} {ls : Array Slot} {G : GT} {D : Nat → Prop}
theorem mw_newq {i : Int32} {N : Nat} (S : CallFix p m c cc nL s args Ts own) (hGX : GX s) (hG : GK G H1 s) (hcl : (Cond.classLink own index "java/lang/Object").before args s = true) (hn : ¬ i < 0) (hN : i.toNatClampNeg = N) (hb : N * 4 ≤ 536870912) (hf : cells + 1 ≤ R.cells ∧ slots + N ≤ R.slots) (hdg : decode cc pc = .ok (.anewarray index, 3))
    (kk : ∀ H2 : Heap, va_at G.1 vwCl (H1.size, .inl (G.2.1 1, gRef N (fun _ => none))) H2 → H2.size = H1.size + 1 → ext H1 H2 → W p l e R s m args below meth c H2 locs (cells + 1) (slots + N) Q (F0 m (pc + 3) ls (.ref H1.size :: rest))) : W p l e R s m args below meth c H1 locs cells slots Q (F0 m pc ls (.int i :: rest)) := by
  subst hN
  refine W.anew S.1 S.2.1 S.2.2.2.1 hcl (va_AO.use hGX.2) rfl hdg rfl hn hb hf.1 hf.2 fun cA kA comp f1 f2 f3 f4 => ?_
  have hc : cA = G.2.1 1 := by
    obtain ⟨kB, c2, k1, k2, k3, k4⟩ := (hG.1.1.2 1 _ rfl).2
    exact Option.some.inj (f1.symm.trans k4)
  subst hc
  generalize hH2 : H1.push ({ cls := G.2.1 1, slots := Array.replicate i.toNatClampNeg .null, vm := .none } : Cell) = H2
  have z1 : H2.size = H1.size + 1 := by rw [← hH2, Array.size_push]
  have e1 : H2[H1.size]? = some (arrV (G.2.1 1) i.toNatClampNeg (fun _ => .null)) := by rw [← hH2, Array.getElem?_push_size, ← arrV_new]
  have o1 : ∀ q : Nat, q < H1.size → H2[q]? = H1[q]? := fun q hq => by rw [← hH2, Array.getElem?_push, if_neg (Nat.ne_of_lt hq)]
  refine kk H2 ?_ z1 ⟨by omega, o1⟩
  show H2[H1.size]? = some (vp_cell _ _)
  rw [e1, vp_cell_q]
  rfl
theorem mw_cpy {C : String} {a0 n0 n1 k : Nat} {r r1 : Nat → Option Nat} (S : CallFix p m c cc nL s args Ts own) (hD : DP G D H.size) (hG : GK G H1 s) (hS : va_S D H H1 locs) (hsz : ls.size = nL) (hlink : (Cond.methodLink own index arraycopyName).before args s = true) (hnat : (Cond.native arraycopyName).before args s = true) (hstat : (Cond.static arraycopyName).before args s = true) (hini : (Cond.initialized "java/lang/System").before args s = true)
    (hda : D a) (ha0 : va_at G.1 vwCl (a0, .inl (G.2.1 1, gRef n0 r)) H1) (ha1 : va_at G.1 vwCl (a, .inl (G.2.1 1, gRef n1 r1)) H1) (hk : k < 65536) (h4 : k ≤ n0) (h5 : k ≤ n1) (hel : ∀ i y : Nat, i < k → r i = some y → ∃ cellV : Cell, H1[y]? = some cellV ∧ cellV.vm.isStatics = false ∧ s.vm.findClass C = some cellV.cls) (hcast : va_Nw (.castable C "java/lang/Object") s)
    (hR : 1 ≤ R.frames ∧ (rest.map fun v => v.category).sum + (nativeFrameWords "java/lang/System" "arraycopy" 5 + 11) ≤ R.locals) (hdg : decode cc pc = .ok (.invokestatic index, 3))
    (kk : ∀ (H2 : Heap) (locs2 : List Loc), va_at G.1 vwCl (a, .inl (G.2.1 1, gRef n1 (va_cpy r r1 0 0 k))) H2 → H2.size = H1.size → (∀ q : Nat, q ≠ a → H2[q]? = H1[q]?) → va_S D H H2 locs2 → GK G H2 s → W p l e R s m args below meth c H2 locs2 cells slots Q (F0 m (pc + 3) ls rest)) : W p l e R s m args below meth c H1 locs cells slots Q (F0 m pc ls (.int (nI k) :: .int 0 :: .ref a :: .int 0 :: .ref a0 :: rest)) := by
  have hz : (0 : Int32).toNatClampNeg = 0 := by decide
  have hkn : (nI k).toNatClampNeg = k := nI_clamp (by omega)
  have hkz : ¬ nI k < 0 := nI_pos (by omega)
  have hz0 : (0 : Int32).toInt = 0 := by decide
  have hki : (nI k).toInt = (k : Int) := nI_toInt (by omega)
  intro T hT X
  obtain ⟨-, k0, hk0, cm0, hkk0⟩ := (hG.1.1.2 1 _ rfl).1 n0 (fun j => va_rf (r j))
  obtain ⟨vm', X', step⟩ := X.arraycopy S.1 S.2.2.2.1 hlink hnat hstat hini (src := a0) (dst := a) (cs := vp_cell (G.2.1 1) (gRef n0 r)) (cd := vp_cell (G.2.1 1) (gRef n1 r1)) (srcPos := 0) (destPos := 0) (n := nI k) (by rw [hT]; exact ha0) (by rw [hT]; exact ha1)
    (fun _ h => by cases h) (fun _ h => by cases h) (fun h => by cases h) (fun h => by cases h) hk0 hk0 hkk0 hkk0 rfl (by decide) (by decide) hkz
    (by rw [hz0, hki]; show ¬ _ > ((arrV (G.2.1 1) n0 (fun j => va_rf (r j))).slots.size : Int); rw [arrV_size]; omega)
    (by rw [hz0, hki]; show ¬ _ > ((arrV (G.2.1 1) n1 (fun j => va_rf (r1 j))).slots.size : Int); rw [arrV_size]; omega)
    (fun vm₁ hal i hi => by
      rw [hkn] at hi
      have e : (vp_cell (G.2.1 1) (gRef n0 r)).slots.getD ((0 : Int32).toNatClampNeg + i) .null = va_rf (r i) := by
        show (arrV (G.2.1 1) n0 (fun j => va_rf (r j))).slots.getD _ _ = _
        rw [hz, Nat.zero_add, Array.getD_eq_getD_getElem?, arrV_read _ _ (by omega)]
        rfl
      rw [e]
      cases hy : r i with
      | none => exact ⟨rfl, trivial⟩
      | some y =>
        obtain ⟨cellV, g1, g2, g3⟩ := hel i y hi hy
        obtain ⟨kA, comp, r3, r4, r5, -⟩ := (hG.1.1.2 1 _ rfl).2
        cases hk0.symm.trans r3
        cases hkk0.symm.trans r4
        obtain ⟨c0, t1, f1, f2, f3⟩ := Cond.castable_spec (va_Nw.use (A := args) rfl hcast)
        cases g3.symm.trans f1
        cases r5.symm.trans f2
        obtain ⟨kC, hkC, -⟩ := Vm.findClass_spec g3
        obtain ⟨kE, hkE, -⟩ := Vm.findClass_spec r5
        obtain ⟨kC', hkC', -⟩ := hal.2.2 _ _ hkC
        obtain ⟨kE', hkE', -⟩ := hal.2.2 _ _ hkE
        refine ⟨rfl, cellV, (show T.heap[y]? = some cellV by rw [hT]; exact g1), (fun q h => by rw [h] at g2; cases g2), ⟨kC', hkC'⟩, ?_, ?_⟩
        · exact ⟨kE', hkE'⟩
        · show vm₁.assignable _ _ = true
          rw [hal.assignable]
          exact f3)
    (g := F0 m pc ls (.int (nI k) :: .int 0 :: .ref a :: .int 0 :: .ref a0 :: rest)) rfl (hsz.trans S.2.2.1.symm) (rest := rest) rfl (by rw [S.2.1]; exact hdg) hR.1 (by show 2 * 0 + _ + _ ≤ _; have h9 := hR.2; omega)
  have e1 : copied (vp_cell (G.2.1 1) (gRef n0 r)) (vp_cell (G.2.1 1) (gRef n1 r1)) 0 0 (nI k) = vp_cell (G.2.1 1) (gRef n1 (va_cpy r r1 0 0 k)) := by
    rw [vp_cell_q, vp_cell_q, vp_cell_q]
    show (arrV (G.2.1 1) n1 (fun j => va_rf (r1 j))).storeRun (0 : Int32).toNatClampNeg ((arrV (G.2.1 1) n0 (fun j => va_rf (r j))).stretch (0 : Int32).toNatClampNeg (nI k).toNatClampNeg) = _
    rw [hz, hkn]
    exact va_copied (fun z => va_rf z) (G.2.1 1) (G.2.1 1) r r1 (by omega)
  rw [e1] at X' step
  have hl : a < H1.size := ha1.lt
  have oq : ∀ q : Nat, q ≠ a → (H1.setIfInBounds a (vp_cell (G.2.1 1) (gRef n1 (va_cpy r r1 0 0 k))))[q]? = H1[q]? := fun q hq => by simp [Array.getElem?_setIfInBounds, Ne.symm hq]
  obtain ⟨t, a1, b1⟩ := kk (H1.setIfInBounds a (vp_cell (G.2.1 1) (gRef n1 (va_cpy r r1 0 0 k)))) _ (show (H1.setIfInBounds a _)[a]? = some _ by simp [Array.getElem?_setIfInBounds, hl]) (by simp) oq ⟨by simp; exact hS.1, fun q g1 g2 => (oq q (fun e => g2 (by rw [e]; exact hda))).trans (hS.2.1 q g1 g2), fun q hq => by
      rcases List.mem_append.mp hq with h | h
      · exact hS.2.2 q h
      · obtain ⟨z, -, hz9⟩ := List.mem_map.mp h
        rw [← hz9]
        exact hda⟩ (hG.heap fun q _ hzq => oq q fun e => hzq (by rw [e]; exact hD.2 a hda)) _ (by rw [← hT]; rfl) X'
  exact ⟨t, step t a1, b1⟩
end QMA
