set_option maxHeartbeats 4000000 in
set_option maxRecDepth 100000 in
theorem c_L_below (l : Launch) (G : GT) (H : Heap) (v n : Int32) (hn : ¬ n = 0) : RdV l G H yL_below wsL_below { frames := 0, cells := 0, slots := 0, locals := 0 } [.int v, .int n] (some (.int (bel v n))) := by
  refine rd_of (cc := cL_below) (maxL := 2) (ret := (some .int)) (by decide) rfl (Nat.le_of_ble_eq_true rfl) ?_
  intro pZ eZ sZ mZ bZ meZ cZ ls S hr hlk hl hHs hG
  have S : CallFix pZ mZ cZ cL_below 2 sZ _ wsL_below RL := S
  have hx := S.1
  have hb := S.2.1
  have hown := S.2.2.2.1
  have hts := S.2.2.2.2
  have hl : lv_has ls 2 [(0, .int v), (1, .int n)] := hl
  refine lv_iload_n hx hb dL_below_0 rfl (lv_at hl 0 rfl) ?_
  refine lv_ldc (own := RL) (v := 2147483647) hx hb hown (hts (.constant RL 7 (2147483647)) (by decide +kernel)) dL_below_1 ?_
  refine lv_iand hx hb dL_below_3 ?_
  refine lv_iload_n hx hb dL_below_4 rfl (lv_at hl 1 rfl) ?_
  refine lv_irem hx hb dL_below_5 hn ?_
  exact rd_iret S hr hlk dL_below_6 rfl
set_option maxHeartbeats 4000000 in
set_option maxRecDepth 100000 in
theorem c_L_cell (l : Launch) (G : GT) (H : Heap) (k : Nat) (hk : k < 60000) : RdV l G H yL_cell wsL_cell { frames := 0, cells := 0, slots := 0, locals := 0 } [.ref G.2.2.2.1, .int (nI k)] (some (.int (ce G k))) := by
  refine rd_of (cc := cL_cell) (maxL := 2) (ret := (some .int)) (by decide) rfl (Nat.le_of_ble_eq_true rfl) ?_
  intro pZ eZ sZ mZ bZ meZ cZ ls S hr hlk hl hHs hG
  have S : CallFix pZ mZ cZ cL_cell 2 sZ _ wsL_cell RL := S
  have hx := S.1
  have hb := S.2.1
  have hown := S.2.2.2.1
  have hts := S.2.2.2.2
  have hl : lv_has ls 2 [(0, .ref G.2.2.2.1), (1, .int (nI k))] := hl
  obtain ⟨hX, -, hL⟩ := hG.2.2.2
  have hbl : G.2.2.2.1 < H.size := by
    obtain ⟨scr, e9, -⟩ := id hX
    exact (Array.getElem?_eq_some_iff.mp e9).1
  have hS0 : va_S (fun _ => False) H H [] := va_S.rf
  refine lv_iload_n hx hb dL_cell_0 rfl (lv_at hl 1 rfl) ?_
  refine lv_aload_n hx hb dL_cell_1 rfl (lv_at hl 0 rfl) ?_
  refine va_slen hx hb hX hbl (fun z => z) hS0 dL_cell_2 ?_
  by_cases hc : k < G.2.2.2.2.1
  · refine lv_icmp_ge (tgt := 12) hx hb dL_cell_3 (by decide) (fun c => absurd c (nI_ge hc (by omega))) (fun _ => ?_)
    refine lv_aload_n hx hb dL_cell_6 rfl (lv_at hl 0 rfl) ?_
    refine lv_iload_n hx hb dL_cell_7 rfl (lv_at hl 1 rfl) ?_
    refine va_sld hx hb hX hbl (fun z => z) hS0 (vp_in_nI hc (by omega)) dL_cell_8 ?_
    refine lv_goto (tgt := 18) hx hb dL_cell_9 (by decide) ?_
    exact rd_iret S hr hlk dL_cell_18 (by unfold ce; rw [if_pos hc, nI_clamp (by omega)])
  · refine lv_icmp_ge (tgt := 12) hx hb dL_cell_3 (by decide) (fun _ => ?_) (fun c => absurd (nI_le (by omega) (by omega)) c)
    refine lv_ldc (own := RL) (v := 790386105) hx hb hown (hts (.constant RL 8 (790386105)) (by decide +kernel)) dL_cell_12 ?_
    refine lv_iload_n hx hb dL_cell_14 rfl (lv_at hl 1 rfl) ?_
    refine lv_iconst (v := nI 3) hx hb dL_cell_15 (by decide) ?_
    refine lv_iadd hx hb dL_cell_16 ?_
    refine lv_imul hx hb dL_cell_17 ?_
    exact rd_iret S hr hlk dL_cell_18 (by unfold ce; rw [if_neg hc, nI_add])
