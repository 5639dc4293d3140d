set_option maxRecDepth 100000 in
theorem lwin_7 : ∀ w ∈ wsL_law0_r7, w ∈ lw_tbl := by decide +kernel
set_option maxRecDepth 100000 in
theorem lwin_8 : ∀ w ∈ wsL_law0_r8, w ∈ lw_tbl := by decide +kernel
set_option maxRecDepth 100000 in
theorem lwin_9 : ∀ w ∈ wsL_law0_r9, w ∈ lw_tbl := by decide +kernel
set_option maxRecDepth 100000 in
theorem lwin_10 : ∀ w ∈ wsL_law0_r10, w ∈ lw_tbl := by decide +kernel
set_option maxRecDepth 100000 in
theorem lwin_11 : ∀ w ∈ wsL_law0_r11, w ∈ lw_tbl := by decide +kernel
set_option maxRecDepth 100000 in
theorem lwin_12 : ∀ w ∈ wsL_law0_r12, w ∈ lw_tbl := by
  show ∀ w ∈ ([Cond.selects RX1 yX1_areEndsConnected yX1_areEndsConnected, Cond.code yX1_areEndsConnected cX1_areEndsConnected 5 (some .boolean), Cond.methodLink RX4 265 yX4_joinsLiveAndEarthed, Cond.instanceMethod yX4_joinsLiveAndEarthed, Cond.selects RX4 yX4_joinsLiveAndEarthed yX4_joinsLiveAndEarthed, Cond.code yX4_joinsLiveAndEarthed cX4_joinsLiveAndEarthed 4 (some .boolean), Cond.methodLink RX4 268 yX4_makesLoad, Cond.instanceMethod yX4_makesLoad, Cond.selects RX4 yX4_makesLoad yX4_makesLoad, Cond.code yX4_makesLoad cX4_makesLoad 3 (some .boolean), Cond.methodLink RX4 248 yX4_areSafe, Cond.instanceMethod yX4_areSafe, Cond.selects RX4 yX4_areSafe yX4_areSafe, Cond.code yX4_areSafe cX4_areSafe 3 (some .boolean), Cond.methodLink RL 89 yL_why, Cond.static yL_why] : List Cond) ++ (Cond.code yL_why cL_why 20 (some .int) :: ([Cond.methodLink RL 149 yX4_times, Cond.instanceMethod yX4_times, Cond.selects RX4 yX4_times yX4_times, Cond.code yX4_times cX4_times 3 (some .int), Cond.methodLink RX4 89 yX4_actOf, Cond.static yX4_actOf, Cond.code yX4_actOf cX4_actOf 2 (some .int)])), w ∈ lw_tbl
  exact (List.forall_mem_append.mpr ⟨(by decide +kernel), List.forall_mem_cons.mpr ⟨(List.mem_of_getElem? (l := lw_tbl) (i := 415) rfl), (by decide +kernel)⟩⟩)
