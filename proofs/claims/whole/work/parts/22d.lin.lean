set_option maxRecDepth 100000 in
theorem wl_in27 : ∀ w ∈ wsL_law0_r27, w ∈ lw_tbl := by decide +kernel
set_option maxRecDepth 100000 in
theorem wl_in28 : ∀ w ∈ wsL_law0_r28, w ∈ lw_tbl := by decide +kernel
set_option maxRecDepth 100000 in
theorem wl_in29 : ∀ w ∈ wsL_law0_r29, w ∈ lw_tbl := by decide +kernel
set_option maxRecDepth 100000 in
theorem wl_in30 : ∀ w ∈ wsL_law0_r30, w ∈ lw_tbl := by decide +kernel
set_option maxRecDepth 100000 in
theorem wl_in31 : ∀ w ∈ wsL_law0_r31, w ∈ lw_tbl := by decide +kernel
set_option maxRecDepth 100000 in
theorem wl_in32 : ∀ w ∈ wsL_law0_r32, w ∈ lw_tbl := by decide +kernel
set_option maxRecDepth 100000 in
theorem wl_in33 : ∀ w ∈ wsL_law0_r33, w ∈ lw_tbl := by decide +kernel
set_option maxRecDepth 100000 in
theorem wl_in34 : ∀ w ∈ wsL_law0_r34, w ∈ lw_tbl := by decide +kernel
set_option maxRecDepth 100000 in
theorem wl_in35 : ∀ w ∈ wsL_law0_r35, w ∈ lw_tbl := by decide +kernel
set_option maxRecDepth 100000 in
theorem wl_in36 : ∀ w ∈ wsL_law0_r36, w ∈ lw_tbl := by decide +kernel
set_option maxRecDepth 100000 in
theorem wl_in37 : ∀ w ∈ wsL_law0_r37, w ∈ lw_tbl := by decide +kernel
set_option maxRecDepth 100000 in
theorem wl_in38 : ∀ w ∈ wsL_law0_r38, w ∈ lw_tbl := by decide +kernel
set_option maxRecDepth 100000 in
theorem wl_in39 : ∀ w ∈ wsL_law0_r39, w ∈ lw_tbl := by decide +kernel
set_option maxRecDepth 100000 in
theorem wl_in_wsX70 : ∀ w ∈ wsX70, w ∈ lw_tbl := by decide +kernel
set_option maxRecDepth 100000 in
theorem wl_in_wsX110 : ∀ w ∈ wsX110, w ∈ lw_tbl := by decide +kernel
set_option maxRecDepth 100000 in
theorem wl_in_wsX40 : ∀ w ∈ wsX40, w ∈ lw_tbl := by decide +kernel
set_option maxRecDepth 100000 in
theorem wl_in_wsX00 : ∀ w ∈ wsX00, w ∈ lw_tbl := by decide +kernel
set_option maxRecDepth 100000 in
theorem wl_in_wsX50 : ∀ w ∈ wsX50, w ∈ lw_tbl := by decide +kernel
set_option maxRecDepth 100000 in
theorem wl_in_wsX10 : ∀ w ∈ wsX10, w ∈ lw_tbl := by decide +kernel
set_option maxRecDepth 100000 in
theorem wl_in_wsX30 : ∀ w ∈ wsX30, w ∈ lw_tbl := by decide +kernel
set_option maxRecDepth 100000 in
theorem wl_in_wsX20 : ∀ w ∈ wsX20, w ∈ lw_tbl := by decide +kernel
set_option maxRecDepth 100000 in
theorem wl_in_wsX60 : ∀ w ∈ wsX60, w ∈ lw_tbl := by decide +kernel
set_option maxRecDepth 100000 in
theorem wl_in_wsJx4a65c0 : ∀ w ∈ wsJx4a65c0, w ∈ lw_tbl := by decide +kernel
set_option maxRecDepth 100000 in
theorem wl_in_wsX90 : ∀ w ∈ wsX90, w ∈ lw_tbl := by decide +kernel
set_option maxRecDepth 100000 in
theorem wl_in_wsX100 : ∀ w ∈ wsX100, w ∈ lw_tbl := by decide +kernel
set_option maxRecDepth 100000 in
theorem wl_in_wsX80 : ∀ w ∈ wsX80, w ∈ lw_tbl := by decide +kernel
set_option maxRecDepth 100000 in
theorem wsL_law_x0 : ∀ w ∈ (vx_atS RX7 73 "java/lang/IllegalStateException" ["java/lang/RuntimeException", "java/lang/Exception"]).filter goodWord, w ∈ lw_tbl := by decide +kernel
set_option maxRecDepth 100000 in
theorem wsL_law_x1 : ∀ w ∈ (vx_atS RX7 320 "java/lang/IllegalArgumentException" ["java/lang/RuntimeException", "java/lang/Exception"]).filter goodWord, w ∈ lw_tbl := by decide +kernel
set_option maxRecDepth 100000 in
theorem wsL_law_x2 : ∀ w ∈ (vx_atS RX7 305 "java/lang/IndexOutOfBoundsException" ["java/lang/RuntimeException", "java/lang/Exception"]).filter goodWord, w ∈ lw_tbl := by decide +kernel
set_option maxRecDepth 100000 in
theorem wsL_law_in0 : ∀ w ∈ wsL_law0, w ∈ lw_tbl := List.forall_mem_append.mpr ⟨List.forall_mem_append.mpr ⟨List.forall_mem_append.mpr ⟨List.forall_mem_append.mpr ⟨List.forall_mem_append.mpr ⟨List.forall_mem_append.mpr ⟨List.forall_mem_append.mpr ⟨List.forall_mem_append.mpr ⟨List.forall_mem_append.mpr ⟨List.forall_mem_append.mpr ⟨List.forall_mem_append.mpr ⟨List.forall_mem_append.mpr ⟨List.forall_mem_append.mpr ⟨List.forall_mem_append.mpr ⟨List.forall_mem_append.mpr ⟨wl_in1, List.forall_mem_append.mpr ⟨wl_in2, List.forall_mem_append.mpr ⟨wl_in3, List.forall_mem_append.mpr ⟨wl_in4, List.forall_mem_append.mpr ⟨wl_in5, List.forall_mem_append.mpr ⟨wl_in6, List.forall_mem_append.mpr ⟨wl_in7, List.forall_mem_append.mpr ⟨wl_in8, List.forall_mem_append.mpr ⟨wl_in9, List.forall_mem_append.mpr ⟨wl_in10, List.forall_mem_append.mpr ⟨wl_in11, List.forall_mem_append.mpr ⟨wl_in12, List.forall_mem_append.mpr ⟨wl_in13, List.forall_mem_append.mpr ⟨wl_in14, List.forall_mem_append.mpr ⟨wl_in15, List.forall_mem_append.mpr ⟨wl_in16, List.forall_mem_append.mpr ⟨wl_in17, List.forall_mem_append.mpr ⟨wl_in18, List.forall_mem_append.mpr ⟨wl_in19, List.forall_mem_append.mpr ⟨wl_in20, List.forall_mem_append.mpr ⟨wl_in21, List.forall_mem_append.mpr ⟨wl_in22, List.forall_mem_append.mpr ⟨wl_in23, List.forall_mem_append.mpr ⟨wl_in24, List.forall_mem_append.mpr ⟨wl_in25, List.forall_mem_append.mpr ⟨wl_in26, List.forall_mem_append.mpr ⟨wl_in27, List.forall_mem_append.mpr ⟨wl_in28, List.forall_mem_append.mpr ⟨wl_in29, List.forall_mem_append.mpr ⟨wl_in30, List.forall_mem_append.mpr ⟨wl_in31, List.forall_mem_append.mpr ⟨wl_in32, List.forall_mem_append.mpr ⟨wl_in33, List.forall_mem_append.mpr ⟨wl_in34, List.forall_mem_append.mpr ⟨wl_in35, List.forall_mem_append.mpr ⟨wl_in36, List.forall_mem_append.mpr ⟨wl_in37, List.forall_mem_append.mpr ⟨wl_in38, wl_in39⟩⟩⟩⟩⟩⟩⟩⟩⟩⟩⟩⟩⟩⟩⟩⟩⟩⟩⟩⟩⟩⟩⟩⟩⟩⟩⟩⟩⟩⟩⟩⟩⟩⟩⟩⟩⟩⟩, wl_in_wsX70⟩, wl_in_wsX110⟩, wl_in_wsX40⟩, wl_in_wsX00⟩, wl_in_wsX50⟩, wl_in_wsX10⟩, wl_in_wsX30⟩, wl_in_wsX20⟩, wl_in_wsX60⟩, wl_in_wsJx4a65c0⟩, wl_in_wsX90⟩, wl_in_wsX100⟩, wl_in_wsX80⟩, fun w h => nomatch h⟩
theorem wsL_law_in : ∀ w ∈ wsL_law, w ∈ lw_tbl := List.forall_mem_append.mpr ⟨List.forall_mem_append.mpr ⟨List.forall_mem_append.mpr ⟨wsL_law_in0, wsL_law_x0⟩, wsL_law_x1⟩, wsL_law_x2⟩
