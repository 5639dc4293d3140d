set_option maxRecDepth 100000 in
theorem lwin_1 : ∀ w ∈ wsL_law0_r1, w ∈ lw_tbl := by decide +kernel
set_option maxRecDepth 100000 in
theorem lwin_2 : ∀ w ∈ wsL_law0_r2, w ∈ lw_tbl := by decide +kernel
set_option maxRecDepth 100000 in
theorem lwin_3 : ∀ w ∈ wsL_law0_r3, w ∈ lw_tbl := by
  show ∀ w ∈ ([] : List Cond) ++ (Cond.code yL_isTold cL_isTold 18 (some .boolean) :: ([Cond.methodLink RL 65 yL_lay, Cond.static yL_lay, Cond.code yL_lay cL_lay 7 none, Cond.methodLink RL 69 yL_with, Cond.static yL_with, Cond.code yL_with cL_with 5 (some .int), Cond.methodLink RL 121 yL_part, Cond.static yL_part, Cond.codeWith yL_part cL_part 4 (some .int) [(0, 6, 9, 20)], Cond.classLink RL 20 "java/lang/IndexOutOfBoundsException", Cond.methodLink RL 56 yX4_part, Cond.instanceMethod yX4_part, Cond.selects RX4 yX4_part yX4_part, Cond.code yX4_part cX4_part 2 (some .int), Cond.methodLink RX4 63 yX4_requireNode, Cond.instanceMethod yX4_requireNode, Cond.selects RX4 yX4_requireNode yX4_requireNode, Cond.code yX4_requireNode cX4_requireNode 2 none, Cond.classLink RX4 121 "java/lang/IndexOutOfBoundsException", Cond.initialized "java/lang/IndexOutOfBoundsException", Cond.methodLink RX4 226 yX1_hasNode, Cond.instanceMethod yX1_hasNode, Cond.selects RX1 yX1_hasNode yX1_hasNode])), w ∈ lw_tbl
  exact (List.forall_mem_append.mpr ⟨(fun w h => absurd h List.not_mem_nil), List.forall_mem_cons.mpr ⟨(List.mem_of_getElem? (l := lw_tbl) (i := 548) rfl), (by decide +kernel)⟩⟩)
set_option maxRecDepth 100000 in
theorem lwin_4 : ∀ w ∈ wsL_law0_r4, w ∈ lw_tbl := by decide +kernel
set_option maxRecDepth 100000 in
theorem lwin_5 : ∀ w ∈ wsL_law0_r5, w ∈ lw_tbl := by decide +kernel
set_option maxRecDepth 100000 in
theorem lwin_6 : ∀ w ∈ wsL_law0_r6, w ∈ lw_tbl := by decide +kernel
