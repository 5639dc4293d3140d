set_option maxRecDepth 100000 in
theorem lwin_13 : ∀ w ∈ wsL_law0_r13, w ∈ lw_tbl := by decide +kernel
set_option maxRecDepth 100000 in
theorem lwin_14 : ∀ w ∈ wsL_law0_r14, w ∈ lw_tbl := by decide +kernel
set_option maxRecDepth 100000 in
theorem lwin_15 : ∀ w ∈ wsL_law0_r15, w ∈ lw_tbl := by decide +kernel
set_option maxRecDepth 100000 in
theorem lwin_16 : ∀ w ∈ wsL_law0_r16, w ∈ lw_tbl := by decide +kernel
set_option maxRecDepth 100000 in
theorem lwin_17 : ∀ w ∈ wsL_law0_r17, w ∈ lw_tbl := by decide +kernel
set_option maxRecDepth 100000 in
theorem lwin_18 : ∀ w ∈ wsL_law0_r18, w ∈ lw_tbl := by decide +kernel
set_option maxRecDepth 100000 in
theorem lwin_19 : ∀ w ∈ wsL_law0_r19, w ∈ lw_tbl := by decide +kernel
set_option maxRecDepth 100000 in
theorem inX0 : ∀ w ∈ wsX00, w ∈ lw_tbl := by decide +kernel
set_option maxRecDepth 100000 in
theorem inX1 : ∀ w ∈ wsX10, w ∈ lw_tbl := by decide +kernel
set_option maxRecDepth 100000 in
theorem inX2 : ∀ w ∈ wsX20, w ∈ lw_tbl := by decide +kernel
set_option maxRecDepth 100000 in
theorem inX3 : ∀ w ∈ wsX30, w ∈ lw_tbl := by decide +kernel
set_option maxRecDepth 100000 in
theorem inX4 : ∀ w ∈ wsX40, w ∈ lw_tbl := by decide +kernel
theorem wsL_law_in0 : ∀ w ∈ wsL_law0, w ∈ lw_tbl := fun w h => (List.mem_append.mp h).elim (fun h => (List.mem_append.mp h).elim (fun h => (List.mem_append.mp h).elim (fun h => (List.mem_append.mp h).elim (fun h => (List.mem_append.mp h).elim (fun h => (List.mem_append.mp h).elim (fun h => (List.mem_append.mp h).elim (fun h => lwin_1 w h) (fun h => (List.mem_append.mp h).elim (fun h => lwin_2 w h) (fun h => (List.mem_append.mp h).elim (fun h => lwin_3 w h) (fun h => (List.mem_append.mp h).elim (fun h => lwin_4 w h) (fun h => (List.mem_append.mp h).elim (fun h => lwin_5 w h) (fun h => (List.mem_append.mp h).elim (fun h => lwin_6 w h) (fun h => (List.mem_append.mp h).elim (fun h => lwin_7 w h) (fun h => (List.mem_append.mp h).elim (fun h => lwin_8 w h) (fun h => (List.mem_append.mp h).elim (fun h => lwin_9 w h) (fun h => (List.mem_append.mp h).elim (fun h => lwin_10 w h) (fun h => (List.mem_append.mp h).elim (fun h => lwin_11 w h) (fun h => (List.mem_append.mp h).elim (fun h => lwin_12 w h) (fun h => (List.mem_append.mp h).elim (fun h => lwin_13 w h) (fun h => (List.mem_append.mp h).elim (fun h => lwin_14 w h) (fun h => (List.mem_append.mp h).elim (fun h => lwin_15 w h) (fun h => (List.mem_append.mp h).elim (fun h => lwin_16 w h) (fun h => (List.mem_append.mp h).elim (fun h => lwin_17 w h) (fun h => (List.mem_append.mp h).elim (fun h => lwin_18 w h) (fun h => lwin_19 w h))))))))))))))))))) (fun h => inX4 w h)) (fun h => inX1 w h)) (fun h => inX3 w h)) (fun h => inX0 w h)) (fun h => inX2 w h)) (fun h => absurd h List.not_mem_nil)
set_option maxRecDepth 100000 in
theorem wsL_law_x0 : ∀ w ∈ (vx_atS RX4 125 "java/lang/IndexOutOfBoundsException" ["java/lang/RuntimeException", "java/lang/Exception"]).filter goodWord, w ∈ lw_tbl := by decide +kernel
theorem wsL_law_x1 : ∀ w ∈ (zy_at RX4 225 "java/util/NoSuchElementException" 13 zy_rx ["java/lang/RuntimeException", "java/lang/Exception"]).filter goodWord, w ∈ lw_tbl := zy_in
set_option maxRecDepth 100000 in
theorem wsL_law_x2 : ∀ w ∈ (vx_atS RX4 70 "java/lang/IllegalArgumentException" ["java/lang/RuntimeException", "java/lang/Exception"]).filter goodWord, w ∈ lw_tbl := by decide +kernel
set_option maxRecDepth 100000 in
theorem wsL_law_x3 : ∀ w ∈ (vx_atS RX4 56 "java/lang/IllegalStateException" ["java/lang/RuntimeException", "java/lang/Exception"]).filter goodWord, w ∈ lw_tbl := by decide +kernel
theorem wsL_law_in : ∀ w ∈ wsL_law, w ∈ lw_tbl := fun w h => (List.mem_append.mp h).elim (fun h => (List.mem_append.mp h).elim (fun h => (List.mem_append.mp h).elim (fun h => (List.mem_append.mp h).elim (fun h => wsL_law_in0 w h) (fun h => wsL_law_x0 w h)) (fun h => wsL_law_x1 w h)) (fun h => wsL_law_x2 w h)) (fun h => wsL_law_x3 w h)
