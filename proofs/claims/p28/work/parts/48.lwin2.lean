set_option maxRecDepth 100000 in
theorem lwin_13 : ∀ w ∈ wsL_law0_r13, w ∈ lw_tbl := by decide +kernel
set_option maxRecDepth 100000 in
theorem lwin_14 : ∀ w ∈ wsL_law0_r14, w ∈ lw_tbl := by
  show ∀ w ∈ ([] : List Cond) ++ (Cond.code yL_builds cL_builds 7 (some .boolean) :: ([Cond.methodLink RL 76 yL_addNode, Cond.static yL_addNode, Cond.codeWith yL_addNode cL_addNode 5 (some .int) [(0, 7, 10, 14)], Cond.classLink RL 14 "java/lang/IllegalStateException", Cond.methodLink RL 8 yX4_addNode, Cond.instanceMethod yX4_addNode, Cond.selects RX4 yX4_addNode yX4_addNode, Cond.code yX4_addNode cX4_addNode 3 (some .int), Cond.classLink RX4 52 "java/lang/IllegalStateException", Cond.initialized "java/lang/IllegalStateException", Cond.methodLink RX4 59 yX1_appendNode, Cond.instanceMethod yX1_appendNode, Cond.selects RX1 yX1_appendNode yX1_appendNode, Cond.code yX1_appendNode cX1_appendNode 4 (some .int), Cond.methodLink RL 79 yL_addSwitch, Cond.static yL_addSwitch, Cond.codeWith yL_addSwitch cL_addSwitch 6 (some .int) [(0, 9, 12, 20), (0, 9, 17, 22), (0, 9, 22, 14)], Cond.methodLink RL 16 yX4_addSwitch, Cond.instanceMethod yX4_addSwitch, Cond.selects RX4 yX4_addSwitch yX4_addSwitch, Cond.code yX4_addSwitch cX4_addSwitch 4 (some .int), Cond.methodLink RX4 76 yX1_appendSwitch, Cond.instanceMethod yX1_appendSwitch])), w ∈ lw_tbl
  exact (List.forall_mem_append.mpr ⟨(fun w h => absurd h List.not_mem_nil), List.forall_mem_cons.mpr ⟨(List.mem_of_getElem? (l := lw_tbl) (i := 138) rfl), (by decide +kernel)⟩⟩)
set_option maxRecDepth 100000 in
theorem lwin_15 : ∀ w ∈ wsL_law0_r15, w ∈ lw_tbl := by
  show ∀ w ∈ ([Cond.selects RX1 yX1_appendSwitch yX1_appendSwitch, Cond.code yX1_appendSwitch cX1_appendSwitch 4 (some .int), Cond.methodLink RL 168 yL_acts, Cond.static yL_acts] : List Cond) ++ (Cond.code yL_acts cL_acts 15 (some .boolean) :: ([Cond.methodLink RL 86 yL_act, Cond.static yL_act, Cond.codeWith yL_act cL_act 5 (some .int) [(0, 7, 10, 22), (0, 7, 15, 20)], Cond.methodLink RL 24 yX4_act, Cond.instanceMethod yX4_act, Cond.selects RX4 yX4_act yX4_act, Cond.code yX4_act cX4_act 3 (some .int), Cond.methodLink RX4 93 yX4_doAndLog, Cond.instanceMethod yX4_doAndLog, Cond.selects RX4 yX4_doAndLog yX4_doAndLog, Cond.code yX4_doAndLog cX4_doAndLog 3 (some .int), Cond.methodLink RX4 131 yX0_append, Cond.instanceMethod yX0_append, Cond.selects RX0 yX0_append yX0_append, Cond.code yX0_append cX0_append 2 none, Cond.methodLink RL 95 yL_takeBack, Cond.static yL_takeBack, Cond.codeWith yL_takeBack cL_takeBack 3 (some .int) [(0, 5, 8, 14)], Cond.methodLink RL 31 yX4_takeBack])), w ∈ lw_tbl
  exact (List.forall_mem_append.mpr ⟨(by decide +kernel), List.forall_mem_cons.mpr ⟨(List.mem_of_getElem? (l := lw_tbl) (i := 284) rfl), (by decide +kernel)⟩⟩)
set_option maxRecDepth 100000 in
theorem lwin_16 : ∀ w ∈ wsL_law0_r16, w ∈ lw_tbl := by decide +kernel
set_option maxRecDepth 100000 in
theorem lwin_17 : ∀ w ∈ wsL_law0_r17, w ∈ lw_tbl := by decide +kernel
set_option maxRecDepth 100000 in
theorem lwin_18 : ∀ w ∈ wsL_law0_r18, w ∈ lw_tbl := by decide +kernel
set_option maxRecDepth 100000 in
theorem lwin_19 : ∀ w ∈ wsL_law0_r19, w ∈ lw_tbl := by decide +kernel
set_option maxRecDepth 100000 in
theorem inX0 : ∀ w ∈ wsX00, w ∈ lw_tbl := by decide +kernel
set_option maxRecDepth 100000 in
theorem inX1 : ∀ w ∈ wsX10, w ∈ lw_tbl := by decide +kernel
set_option maxRecDepth 100000 in
theorem inX2 : ∀ w ∈ wsX20, w ∈ lw_tbl := by decide +kernel
set_option maxRecDepth 100000 in
theorem inX3 : ∀ w ∈ wsX30, w ∈ lw_tbl := by decide +kernel
set_option maxRecDepth 100000 in
theorem inX4 : ∀ w ∈ wsX40, w ∈ lw_tbl := by decide +kernel
theorem wsL_law_in0 : ∀ w ∈ wsL_law0, w ∈ lw_tbl := fun w h => (List.mem_append.mp h).elim (fun h => (List.mem_append.mp h).elim (fun h => (List.mem_append.mp h).elim (fun h => (List.mem_append.mp h).elim (fun h => (List.mem_append.mp h).elim (fun h => (List.mem_append.mp h).elim (fun h => (List.mem_append.mp h).elim (fun h => lwin_1 w h) (fun h => (List.mem_append.mp h).elim (fun h => lwin_2 w h) (fun h => (List.mem_append.mp h).elim (fun h => lwin_3 w h) (fun h => (List.mem_append.mp h).elim (fun h => lwin_4 w h) (fun h => (List.mem_append.mp h).elim (fun h => lwin_5 w h) (fun h => (List.mem_append.mp h).elim (fun h => lwin_6 w h) (fun h => (List.mem_append.mp h).elim (fun h => lwin_7 w h) (fun h => (List.mem_append.mp h).elim (fun h => lwin_8 w h) (fun h => (List.mem_append.mp h).elim (fun h => lwin_9 w h) (fun h => (List.mem_append.mp h).elim (fun h => lwin_10 w h) (fun h => (List.mem_append.mp h).elim (fun h => lwin_11 w h) (fun h => (List.mem_append.mp h).elim (fun h => lwin_12 w h) (fun h => (List.mem_append.mp h).elim (fun h => lwin_13 w h) (fun h => (List.mem_append.mp h).elim (fun h => lwin_14 w h) (fun h => (List.mem_append.mp h).elim (fun h => lwin_15 w h) (fun h => (List.mem_append.mp h).elim (fun h => lwin_16 w h) (fun h => (List.mem_append.mp h).elim (fun h => lwin_17 w h) (fun h => (List.mem_append.mp h).elim (fun h => lwin_18 w h) (fun h => lwin_19 w h))))))))))))))))))) (fun h => inX4 w h)) (fun h => inX1 w h)) (fun h => inX3 w h)) (fun h => inX0 w h)) (fun h => inX2 w h)) (fun h => absurd h List.not_mem_nil)
set_option maxRecDepth 100000 in
theorem wsL_law_x0 : ∀ w ∈ (vx_atS RX4 125 "java/lang/IndexOutOfBoundsException" ["java/lang/RuntimeException", "java/lang/Exception"]).filter goodWord, w ∈ lw_tbl := by decide +kernel
theorem wsL_law_x1 : ∀ w ∈ (zy_at RX4 225 "java/util/NoSuchElementException" 13 zy_rx ["java/lang/RuntimeException", "java/lang/Exception"]).filter goodWord, w ∈ lw_tbl := zy_in
set_option maxRecDepth 100000 in
theorem wsL_law_x2 : ∀ w ∈ (vx_atS RX4 70 "java/lang/IllegalArgumentException" ["java/lang/RuntimeException", "java/lang/Exception"]).filter goodWord, w ∈ lw_tbl := by decide +kernel
set_option maxRecDepth 100000 in
theorem wsL_law_x3 : ∀ w ∈ (vx_atS RX4 56 "java/lang/IllegalStateException" ["java/lang/RuntimeException", "java/lang/Exception"]).filter goodWord, w ∈ lw_tbl := by decide +kernel
theorem wsL_law_in : ∀ w ∈ wsL_law, w ∈ lw_tbl := fun w h => (List.mem_append.mp h).elim (fun h => (List.mem_append.mp h).elim (fun h => (List.mem_append.mp h).elim (fun h => (List.mem_append.mp h).elim (fun h => wsL_law_in0 w h) (fun h => wsL_law_x0 w h)) (fun h => wsL_law_x1 w h)) (fun h => wsL_law_x2 w h)) (fun h => wsL_law_x3 w h)
