theorem dJ9_min_7cf53_0 : decode cJ9_min_7cf53 0 = .ok (.iload_n 0, 1) := by decide +kernel
theorem dJ9_min_7cf53_1 : decode cJ9_min_7cf53 1 = .ok (.iload_n 1, 1) := by decide +kernel
theorem dJ9_min_7cf53_2 : decode cJ9_min_7cf53 2 = .ok (.if_icmp .gt 7, 3) := by decide +kernel
theorem dJ9_min_7cf53_5 : decode cJ9_min_7cf53 5 = .ok (.iload_n 0, 1) := by decide +kernel
theorem dJ9_min_7cf53_6 : decode cJ9_min_7cf53 6 = .ok (.goto 4, 3) := by decide +kernel
theorem dJ9_min_7cf53_9 : decode cJ9_min_7cf53 9 = .ok (.iload_n 1, 1) := by decide +kernel
theorem dJ9_min_7cf53_10 : decode cJ9_min_7cf53 10 = .ok (.ireturn, 1) := by decide +kernel
theorem dL_cell_0 : decode cL_cell 0 = .ok (.iload_n 1, 1) := by decide +kernel
theorem dL_cell_1 : decode cL_cell 1 = .ok (.aload_n 0, 1) := by decide +kernel
theorem dL_cell_2 : decode cL_cell 2 = .ok (.arraylength, 1) := by decide +kernel
theorem dL_cell_3 : decode cL_cell 3 = .ok (.if_icmp .ge 9, 3) := by decide +kernel
theorem dL_cell_6 : decode cL_cell 6 = .ok (.aload_n 0, 1) := by decide +kernel
theorem dL_cell_7 : decode cL_cell 7 = .ok (.iload_n 1, 1) := by decide +kernel
theorem dL_cell_8 : decode cL_cell 8 = .ok (.iaload, 1) := by decide +kernel
theorem dL_cell_9 : decode cL_cell 9 = .ok (.goto 10, 3) := by decide +kernel
theorem dL_cell_12 : decode cL_cell 12 = .ok (.ldc 7, 2) := by decide +kernel
theorem dL_cell_14 : decode cL_cell 14 = .ok (.iload_n 1, 1) := by decide +kernel
theorem dL_cell_15 : decode cL_cell 15 = .ok (.bipush 6, 2) := by decide +kernel
theorem dL_cell_17 : decode cL_cell 17 = .ok (.iadd, 1) := by decide +kernel
theorem dL_cell_18 : decode cL_cell 18 = .ok (.imul, 1) := by decide +kernel
theorem dL_cell_19 : decode cL_cell 19 = .ok (.ireturn, 1) := by decide +kernel
theorem dL_low_0 : decode cL_low 0 = .ok (.iload_n 0, 1) := by decide +kernel
theorem dL_low_1 : decode cL_low 1 = .ok (.iconst 1, 1) := by decide +kernel
theorem dL_low_2 : decode cL_low 2 = .ok (.iushr, 1) := by decide +kernel
theorem dL_low_3 : decode cL_low 3 = .ok (.iload_n 1, 1) := by decide +kernel
theorem dL_low_4 : decode cL_low 4 = .ok (.irem, 1) := by decide +kernel
theorem dL_low_5 : decode cL_low 5 = .ok (.ireturn, 1) := by decide +kernel
set_option maxRecDepth 20000 in
theorem ggL_addNode_X4_addNode : GoodIn wsL_addNode wsX4_addNode := goodIn_ca (goodIn_r _ [6, 7, 8, 9, 10, 11, 12, 13, 14, 15, 16, 17, 18, 19, 20, 21, 22, 23, 24, 25, 26, 27, 28, 29, 30, 31, 32, 33, 34] (by decide +kernel) (by decide +kernel)) (goodIn_sub (fun _ h => List.mem_cons_of_mem _ (List.mem_append_right _ h)) (by decide +kernel))
set_option maxRecDepth 20000 in
theorem gL_addNode_X4_addNode : GoodIn wsL_addNode (wsV RL 8 RX4 yX4_addNode wsX4_addNode) := goodIn_app (goodIn_of _ (by decide +kernel)) ggL_addNode_X4_addNode
theorem dL_addNode_0 : decode cL_addNode 0 = .ok (.aload_n 0, 1) := by decide +kernel
theorem dL_addNode_1 : decode cL_addNode 1 = .ok (.iload_n 1, 1) := by decide +kernel
theorem dL_addNode_2 : decode cL_addNode 2 = .ok (.iload_n 2, 1) := by decide +kernel
theorem dL_addNode_3 : decode cL_addNode 3 = .ok (.invokevirtual 8, 3) := by decide +kernel
theorem dL_addNode_6 : decode cL_addNode 6 = .ok (.istore_n 3, 1) := by decide +kernel
theorem dL_addNode_7 : decode cL_addNode 7 = .ok (.goto 8, 3) := by decide +kernel
theorem dL_addNode_10 : decode cL_addNode 10 = .ok (.astore 4, 2) := by decide +kernel
theorem dL_addNode_12 : decode cL_addNode 12 = .ok (.bipush (-73), 2) := by decide +kernel
theorem dL_addNode_14 : decode cL_addNode 14 = .ok (.ireturn, 1) := by decide +kernel
theorem dL_addNode_15 : decode cL_addNode 15 = .ok (.iload_n 3, 1) := by decide +kernel
theorem dL_addNode_16 : decode cL_addNode 16 = .ok (.ireturn, 1) := by decide +kernel
set_option maxRecDepth 20000 in
theorem ggL_addSwitch_X4_addSwitch : GoodIn wsL_addSwitch wsX4_addSwitch := goodIn_ca (goodIn_ca (goodIn_ca (goodIn_r _ [8, 9, 10, 11, 12, 13, 14, 15, 16, 7, 17, 18, 19, 20, 21, 22, 23, 24, 25, 26, 27, 28, 29, 30, 31, 32, 33, 34, 35, 36, 37, 38, 39, 40, 41, 42, 43, 44, 45, 46, 47, 48, 49] (by decide +kernel) (by decide +kernel)) (goodIn_sub (fun _ h => List.mem_cons_of_mem _ (List.mem_append_left _ (List.mem_append_left _ (List.mem_append_right _ h)))) (by decide +kernel))) (goodIn_sub (fun _ h => List.mem_cons_of_mem _ (List.mem_append_left _ (List.mem_append_right _ h))) (by decide +kernel))) (goodIn_sub (fun _ h => List.mem_cons_of_mem _ (List.mem_append_right _ h)) (by decide +kernel))
set_option maxRecDepth 20000 in
theorem gL_addSwitch_X4_addSwitch : GoodIn wsL_addSwitch (wsV RL 16 RX4 yX4_addSwitch wsX4_addSwitch) := goodIn_app (goodIn_of _ (by decide +kernel)) ggL_addSwitch_X4_addSwitch
theorem dL_addSwitch_0 : decode cL_addSwitch 0 = .ok (.aload_n 0, 1) := by decide +kernel
theorem dL_addSwitch_1 : decode cL_addSwitch 1 = .ok (.iload_n 1, 1) := by decide +kernel
theorem dL_addSwitch_2 : decode cL_addSwitch 2 = .ok (.iload_n 2, 1) := by decide +kernel
theorem dL_addSwitch_3 : decode cL_addSwitch 3 = .ok (.iload_n 3, 1) := by decide +kernel
theorem dL_addSwitch_4 : decode cL_addSwitch 4 = .ok (.invokevirtual 16, 3) := by decide +kernel
theorem dL_addSwitch_7 : decode cL_addSwitch 7 = .ok (.istore 4, 2) := by decide +kernel
theorem dL_addSwitch_9 : decode cL_addSwitch 9 = .ok (.goto 18, 3) := by decide +kernel
theorem dL_addSwitch_12 : decode cL_addSwitch 12 = .ok (.astore 5, 2) := by decide +kernel
theorem dL_addSwitch_14 : decode cL_addSwitch 14 = .ok (.bipush (-72), 2) := by decide +kernel
theorem dL_addSwitch_16 : decode cL_addSwitch 16 = .ok (.ireturn, 1) := by decide +kernel
theorem dL_addSwitch_17 : decode cL_addSwitch 17 = .ok (.astore 5, 2) := by decide +kernel
theorem dL_addSwitch_19 : decode cL_addSwitch 19 = .ok (.bipush (-71), 2) := by decide +kernel
theorem dL_addSwitch_21 : decode cL_addSwitch 21 = .ok (.ireturn, 1) := by decide +kernel
theorem dL_addSwitch_22 : decode cL_addSwitch 22 = .ok (.astore 5, 2) := by decide +kernel
theorem dL_addSwitch_24 : decode cL_addSwitch 24 = .ok (.bipush (-73), 2) := by decide +kernel
theorem dL_addSwitch_26 : decode cL_addSwitch 26 = .ok (.ireturn, 1) := by decide +kernel
theorem dL_addSwitch_27 : decode cL_addSwitch 27 = .ok (.iload 4, 2) := by decide +kernel
theorem dL_addSwitch_29 : decode cL_addSwitch 29 = .ok (.ireturn, 1) := by decide +kernel
set_option maxRecDepth 20000 in
theorem ggL_act_X4_act : GoodIn wsL_act wsX4_act := goodIn_ca (goodIn_ca (goodIn_ca (goodIn_r _ [7, 8, 9, 10, 11, 12, 13, 6, 14, 15, 16, 17, 18, 19, 20, 21, 22, 23, 24, 25, 26, 27, 28, 29, 30, 31, 32, 33, 34, 35, 36, 37, 38, 39, 40, 41, 42, 43, 44, 45, 46, 47, 48, 49, 50, 51, 52, 53, 54, 55, 56, 57, 58, 59, 60, 61, 62, 63, 64, 65, 66, 67, 68, 69, 70, 71, 72, 73, 74, 75, 76, 77, 78, 79, 80, 81, 82, 83, 84, 85, 86, 87, 88, 89, 90, 91, 92, 93, 94, 95, 96, 97, 98, 99, 100, 101, 102, 103, 104, 105, 106, 107, 108, 109, 110, 111, 112, 113, 114, 115, 116, 117, 118, 119, 120, 121, 122, 123, 124, 125, 126, 127, 128, 129, 130, 131, 132, 133, 134, 135, 136, 137, 138, 139, 140, 141, 142, 143, 144, 145, 146, 147, 148, 149, 150, 151, 152, 153, 154, 155, 156, 157, 158, 159, 160, 161, 162, 163, 164, 165, 166, 167, 168, 169, 170, 171, 172, 173, 174] (by decide +kernel) (by decide +kernel)) (goodIn_sub (fun _ h => List.mem_cons_of_mem _ (List.mem_append_left _ (List.mem_append_left _ (List.mem_append_right _ h)))) (by decide +kernel))) (goodIn_sub (fun _ h => List.mem_cons_of_mem _ (List.mem_append_left _ (List.mem_append_right _ h))) (by decide +kernel))) (goodIn_sub (fun _ h => List.mem_cons_of_mem _ (List.mem_append_right _ h)) (by decide +kernel))
set_option maxRecDepth 20000 in
theorem gL_act_X4_act : GoodIn wsL_act (wsV RL 24 RX4 yX4_act wsX4_act) := goodIn_app (goodIn_of _ (by decide +kernel)) ggL_act_X4_act
theorem dL_act_0 : decode cL_act 0 = .ok (.aload_n 0, 1) := by decide +kernel
theorem dL_act_1 : decode cL_act 1 = .ok (.iload_n 1, 1) := by decide +kernel
theorem dL_act_2 : decode cL_act 2 = .ok (.iload_n 2, 1) := by decide +kernel
theorem dL_act_3 : decode cL_act 3 = .ok (.invokevirtual 24, 3) := by decide +kernel
theorem dL_act_6 : decode cL_act 6 = .ok (.istore_n 3, 1) := by decide +kernel
theorem dL_act_7 : decode cL_act 7 = .ok (.goto 13, 3) := by decide +kernel
theorem dL_act_10 : decode cL_act 10 = .ok (.astore 4, 2) := by decide +kernel
theorem dL_act_12 : decode cL_act 12 = .ok (.bipush (-71), 2) := by decide +kernel
theorem dL_act_14 : decode cL_act 14 = .ok (.ireturn, 1) := by decide +kernel
theorem dL_act_15 : decode cL_act 15 = .ok (.astore 4, 2) := by decide +kernel
theorem dL_act_17 : decode cL_act 17 = .ok (.bipush (-72), 2) := by decide +kernel
theorem dL_act_19 : decode cL_act 19 = .ok (.ireturn, 1) := by decide +kernel
theorem dL_act_20 : decode cL_act 20 = .ok (.iload_n 3, 1) := by decide +kernel
theorem dL_act_21 : decode cL_act 21 = .ok (.ireturn, 1) := by decide +kernel
set_option maxRecDepth 20000 in
theorem ggL_reason_X4_reason : GoodIn wsL_reason wsX4_reason := goodIn_ca (goodIn_ca (goodIn_r _ [7, 8, 9, 10, 11, 6, 12, 13, 14, 15, 16, 17, 18, 19, 20, 21, 22, 23, 24, 25, 26, 27, 28, 29, 30, 31, 32, 33, 34, 35, 36, 37, 38, 39, 40, 41, 42, 43, 44, 45, 46, 47, 48, 49, 50, 51, 52, 53, 54, 55, 56, 57, 58, 59, 60, 61, 62, 63, 64, 65, 66, 67, 68, 69, 70, 71, 72, 73, 74, 75, 76, 77, 78, 79, 80, 81, 82, 83, 84, 85, 86, 87, 88, 89, 90, 91, 92, 93, 94, 95, 96, 97, 98, 99, 100, 101, 102, 103, 104, 105, 106, 107, 108, 109, 110, 111, 112, 113, 114, 115, 116, 117, 118, 119, 120, 121, 122, 123, 124, 125, 126, 127, 128, 129, 130, 131, 132, 133, 134, 135, 136, 137, 138, 139, 140, 141, 142, 143, 144, 145] (by decide +kernel) (by decide +kernel)) (goodIn_sub (fun _ h => List.mem_cons_of_mem _ (List.mem_append_left _ (List.mem_append_right _ h))) (by decide +kernel))) (goodIn_sub (fun _ h => List.mem_cons_of_mem _ (List.mem_append_right _ h)) (by decide +kernel))
set_option maxRecDepth 20000 in
theorem gL_reason_X4_reason : GoodIn wsL_reason (wsV RL 28 RX4 yX4_reason wsX4_reason) := goodIn_app (goodIn_of _ (by decide +kernel)) ggL_reason_X4_reason
theorem dL_reason_0 : decode cL_reason 0 = .ok (.aload_n 0, 1) := by decide +kernel
theorem dL_reason_1 : decode cL_reason 1 = .ok (.iload_n 1, 1) := by decide +kernel
theorem dL_reason_2 : decode cL_reason 2 = .ok (.iload_n 2, 1) := by decide +kernel
theorem dL_reason_3 : decode cL_reason 3 = .ok (.invokevirtual 28, 3) := by decide +kernel
theorem dL_reason_6 : decode cL_reason 6 = .ok (.istore_n 3, 1) := by decide +kernel
theorem dL_reason_7 : decode cL_reason 7 = .ok (.goto 13, 3) := by decide +kernel
theorem dL_reason_10 : decode cL_reason 10 = .ok (.astore 4, 2) := by decide +kernel
theorem dL_reason_12 : decode cL_reason 12 = .ok (.bipush (-71), 2) := by decide +kernel
theorem dL_reason_14 : decode cL_reason 14 = .ok (.ireturn, 1) := by decide +kernel
theorem dL_reason_15 : decode cL_reason 15 = .ok (.astore 4, 2) := by decide +kernel
theorem dL_reason_17 : decode cL_reason 17 = .ok (.bipush (-72), 2) := by decide +kernel
theorem dL_reason_19 : decode cL_reason 19 = .ok (.ireturn, 1) := by decide +kernel
theorem dL_reason_20 : decode cL_reason 20 = .ok (.iload_n 3, 1) := by decide +kernel
theorem dL_reason_21 : decode cL_reason 21 = .ok (.ireturn, 1) := by decide +kernel
set_option maxRecDepth 20000 in
theorem ggL_takeBack_X4_takeBack : GoodIn wsL_takeBack wsX4_takeBack := goodIn_ca (goodIn_r _ [6, 7, 8, 9, 10, 11, 12, 13, 14, 15, 16, 17, 18, 19, 20, 21, 22, 23, 5, 24, 25, 26, 27, 28, 29, 30, 31, 32, 33, 34, 35, 36, 37, 38, 39, 40, 41, 42, 43, 44, 45, 46, 47, 48, 49, 50, 51, 52, 53, 54, 55, 56, 57, 58, 59, 60, 61, 62, 63, 64, 65, 66, 67, 68, 69, 70, 71, 72, 73, 74, 75, 76, 77, 78, 79, 80, 81, 82, 83, 84, 85, 86, 87, 88, 89, 90, 91, 92, 93, 94, 95, 96, 97, 98, 99, 100, 101, 102, 103, 104, 105, 106, 107, 108, 109, 110, 111, 112, 113, 114, 115, 116, 117, 118, 119, 120, 121, 122, 123, 124, 125, 126, 127, 128, 129, 130, 131, 132, 133, 134, 135, 136, 137, 138, 139, 140, 141, 142, 143, 144, 145, 146, 147, 148, 149, 150, 151, 152, 153, 154, 155, 156, 157, 158, 159, 160] (by decide +kernel) (by decide +kernel)) (goodIn_sub (fun _ h => List.mem_cons_of_mem _ (List.mem_append_right _ h)) (by decide +kernel))
set_option maxRecDepth 20000 in
theorem gL_takeBack_X4_takeBack : GoodIn wsL_takeBack (wsV RL 31 RX4 yX4_takeBack wsX4_takeBack) := goodIn_app (goodIn_of _ (by decide +kernel)) ggL_takeBack_X4_takeBack
theorem dL_takeBack_0 : decode cL_takeBack 0 = .ok (.aload_n 0, 1) := by decide +kernel
theorem dL_takeBack_1 : decode cL_takeBack 1 = .ok (.invokevirtual 31, 3) := by decide +kernel
theorem dL_takeBack_4 : decode cL_takeBack 4 = .ok (.istore_n 1, 1) := by decide +kernel
theorem dL_takeBack_5 : decode cL_takeBack 5 = .ok (.goto 7, 3) := by decide +kernel
theorem dL_takeBack_8 : decode cL_takeBack 8 = .ok (.astore_n 2, 1) := by decide +kernel
theorem dL_takeBack_9 : decode cL_takeBack 9 = .ok (.bipush (-73), 2) := by decide +kernel
theorem dL_takeBack_11 : decode cL_takeBack 11 = .ok (.ireturn, 1) := by decide +kernel
theorem dL_takeBack_12 : decode cL_takeBack 12 = .ok (.iload_n 1, 1) := by decide +kernel
theorem dL_takeBack_13 : decode cL_takeBack 13 = .ok (.ireturn, 1) := by decide +kernel
set_option maxRecDepth 20000 in
theorem ggL_logged_X4_logged : GoodIn wsL_logged wsX4_logged := goodIn_ca (goodIn_r _ [6, 7, 8, 9, 10, 11, 12, 13, 14, 15, 16, 17, 18, 19, 20, 21, 22, 23, 24, 25, 26, 27, 28, 29] (by decide +kernel) (by decide +kernel)) (goodIn_sub (fun _ h => List.mem_cons_of_mem _ (List.mem_append_right _ h)) (by decide +kernel))
set_option maxRecDepth 20000 in
theorem gL_logged_X4_logged : GoodIn wsL_logged (wsV RL 35 RX4 yX4_logged wsX4_logged) := goodIn_app (goodIn_of _ (by decide +kernel)) ggL_logged_X4_logged
theorem dL_logged_0 : decode cL_logged 0 = .ok (.aload_n 0, 1) := by decide +kernel
theorem dL_logged_1 : decode cL_logged 1 = .ok (.iload_n 1, 1) := by decide +kernel
theorem dL_logged_2 : decode cL_logged 2 = .ok (.invokevirtual 35, 3) := by decide +kernel
theorem dL_logged_5 : decode cL_logged 5 = .ok (.istore_n 2, 1) := by decide +kernel
theorem dL_logged_6 : decode cL_logged 6 = .ok (.goto 7, 3) := by decide +kernel
theorem dL_logged_9 : decode cL_logged 9 = .ok (.astore_n 3, 1) := by decide +kernel
theorem dL_logged_10 : decode cL_logged 10 = .ok (.bipush (-72), 2) := by decide +kernel
theorem dL_logged_12 : decode cL_logged 12 = .ok (.ireturn, 1) := by decide +kernel
theorem dL_logged_13 : decode cL_logged 13 = .ok (.iload_n 2, 1) := by decide +kernel
theorem dL_logged_14 : decode cL_logged 14 = .ok (.ireturn, 1) := by decide +kernel
set_option maxRecDepth 20000 in
theorem ggL_write_X4_write : GoodIn wsL_write wsX4_write := goodIn_ca (goodIn_ca (goodIn_ca (goodIn_r _ [8, 9, 10, 11, 12, 13, 14, 7, 15, 16, 17, 18, 19, 20, 21, 22, 23, 24, 25, 26, 27, 28, 29, 30, 31, 32, 33, 34, 35, 36, 37, 38, 39, 40, 41, 42, 43, 44, 45, 46, 47, 48, 49, 50, 51, 52, 53, 54, 55, 56, 57, 58, 59, 60, 61, 62, 63] (by decide +kernel) (by decide +kernel)) (goodIn_sub (fun _ h => List.mem_cons_of_mem _ (List.mem_append_left _ (List.mem_append_left _ (List.mem_append_right _ h)))) (by decide +kernel))) (goodIn_sub (fun _ h => List.mem_cons_of_mem _ (List.mem_append_left _ (List.mem_append_right _ h))) (by decide +kernel))) (goodIn_sub (fun _ h => List.mem_cons_of_mem _ (List.mem_append_right _ h)) (by decide +kernel))
set_option maxRecDepth 20000 in
theorem gL_write_X4_write : GoodIn wsL_write (wsV RL 39 RX4 yX4_write wsX4_write) := goodIn_app (goodIn_of _ (by decide +kernel)) ggL_write_X4_write
theorem dL_write_0 : decode cL_write 0 = .ok (.aload_n 0, 1) := by decide +kernel
theorem dL_write_1 : decode cL_write 1 = .ok (.iload_n 1, 1) := by decide +kernel
theorem dL_write_2 : decode cL_write 2 = .ok (.iload_n 2, 1) := by decide +kernel
theorem dL_write_3 : decode cL_write 3 = .ok (.invokevirtual 39, 3) := by decide +kernel
theorem dL_write_6 : decode cL_write 6 = .ok (.istore_n 3, 1) := by decide +kernel
theorem dL_write_7 : decode cL_write 7 = .ok (.goto 18, 3) := by decide +kernel
theorem dL_write_10 : decode cL_write 10 = .ok (.astore 4, 2) := by decide +kernel
theorem dL_write_12 : decode cL_write 12 = .ok (.bipush (-71), 2) := by decide +kernel
theorem dL_write_14 : decode cL_write 14 = .ok (.ireturn, 1) := by decide +kernel
theorem dL_write_15 : decode cL_write 15 = .ok (.astore 4, 2) := by decide +kernel
theorem dL_write_17 : decode cL_write 17 = .ok (.bipush (-72), 2) := by decide +kernel
theorem dL_write_19 : decode cL_write 19 = .ok (.ireturn, 1) := by decide +kernel
theorem dL_write_20 : decode cL_write 20 = .ok (.astore 4, 2) := by decide +kernel
theorem dL_write_22 : decode cL_write 22 = .ok (.bipush (-73), 2) := by decide +kernel
theorem dL_write_24 : decode cL_write 24 = .ok (.ireturn, 1) := by decide +kernel
theorem dL_write_25 : decode cL_write 25 = .ok (.iload_n 3, 1) := by decide +kernel
theorem dL_write_26 : decode cL_write 26 = .ok (.ireturn, 1) := by decide +kernel
set_option maxRecDepth 20000 in
theorem ggL_carryOut_X4_carryOut : GoodIn wsL_carryOut wsX4_carryOut := goodIn_ca (goodIn_ca (goodIn_r _ [7, 8, 9, 10, 11, 12, 13, 14, 15, 16, 17, 18, 19, 20, 21, 22, 23, 24, 25, 26, 27, 28, 29, 30, 31, 6, 32, 33, 34, 35, 36, 37, 38, 39, 40, 41, 42, 43, 44, 45, 46, 47, 48, 49, 50, 51, 52, 53, 54, 55, 56, 57, 58, 59, 60, 61, 62, 63, 64, 65, 66, 67, 68, 69, 70, 71, 72, 73, 74, 75, 76, 77, 78, 79, 80, 81, 82, 83, 84, 85, 86, 87, 88, 89, 90, 91, 92, 93, 94, 95, 96, 97, 98, 99, 100, 101, 102, 103, 104, 105, 106, 107, 108, 109, 110, 111, 112, 113, 114, 115, 116, 117, 118, 119, 120, 121, 122, 123, 124, 125, 126, 127, 128, 129, 130, 131, 132, 133, 134, 135, 136, 137, 138, 139, 140, 141, 142, 143, 144, 145, 146, 147, 148, 149, 150, 151, 152, 153, 154, 155, 156, 157, 158, 159, 160, 161, 162, 163, 164, 165, 166, 167, 168, 169, 170] (by decide +kernel) (by decide +kernel)) (goodIn_sub (fun _ h => List.mem_cons_of_mem _ (List.mem_append_left _ (List.mem_append_right _ h))) (by decide +kernel))) (goodIn_sub (fun _ h => List.mem_cons_of_mem _ (List.mem_append_right _ h)) (by decide +kernel))
set_option maxRecDepth 20000 in
theorem gL_carryOut_X4_carryOut : GoodIn wsL_carryOut (wsV RL 42 RX4 yX4_carryOut wsX4_carryOut) := goodIn_app (goodIn_of _ (by decide +kernel)) ggL_carryOut_X4_carryOut
theorem dL_carryOut_0 : decode cL_carryOut 0 = .ok (.aload_n 0, 1) := by decide +kernel
theorem dL_carryOut_1 : decode cL_carryOut 1 = .ok (.iload_n 1, 1) := by decide +kernel
theorem dL_carryOut_2 : decode cL_carryOut 2 = .ok (.invokevirtual 42, 3) := by decide +kernel
theorem dL_carryOut_5 : decode cL_carryOut 5 = .ok (.istore_n 2, 1) := by decide +kernel
theorem dL_carryOut_6 : decode cL_carryOut 6 = .ok (.goto 11, 3) := by decide +kernel
theorem dL_carryOut_9 : decode cL_carryOut 9 = .ok (.astore_n 3, 1) := by decide +kernel
theorem dL_carryOut_10 : decode cL_carryOut 10 = .ok (.bipush (-71), 2) := by decide +kernel
theorem dL_carryOut_12 : decode cL_carryOut 12 = .ok (.ireturn, 1) := by decide +kernel
theorem dL_carryOut_13 : decode cL_carryOut 13 = .ok (.astore_n 3, 1) := by decide +kernel
theorem dL_carryOut_14 : decode cL_carryOut 14 = .ok (.bipush (-73), 2) := by decide +kernel
theorem dL_carryOut_16 : decode cL_carryOut 16 = .ok (.ireturn, 1) := by decide +kernel
theorem dL_carryOut_17 : decode cL_carryOut 17 = .ok (.iload_n 2, 1) := by decide +kernel
theorem dL_carryOut_18 : decode cL_carryOut 18 = .ok (.ireturn, 1) := by decide +kernel
set_option maxRecDepth 20000 in
theorem ggL_permit_X4_permit : GoodIn wsL_permit wsX4_permit := goodIn_ca (goodIn_ca (goodIn_r _ [7, 8, 9, 10, 11, 12, 13, 14, 15, 16, 17, 18, 19, 20, 21, 22, 6, 23, 24, 25, 26, 27, 28, 29, 30, 31, 32, 33, 34, 35, 36, 37, 38, 39, 40, 41, 42, 43, 44, 45, 46, 47, 48, 49, 50, 51, 52, 53, 54, 55, 56, 57, 58, 59, 60, 61, 62, 63, 64, 65, 66, 67, 68, 69, 70, 71, 72, 73, 74, 75] (by decide +kernel) (by decide +kernel)) (goodIn_sub (fun _ h => List.mem_cons_of_mem _ (List.mem_append_left _ (List.mem_append_right _ h))) (by decide +kernel))) (goodIn_sub (fun _ h => List.mem_cons_of_mem _ (List.mem_append_right _ h)) (by decide +kernel))
set_option maxRecDepth 20000 in
theorem gL_permit_X4_permit : GoodIn wsL_permit (wsV RL 45 RX4 yX4_permit wsX4_permit) := goodIn_app (goodIn_of _ (by decide +kernel)) ggL_permit_X4_permit
theorem dL_permit_0 : decode cL_permit 0 = .ok (.aload_n 0, 1) := by decide +kernel
theorem dL_permit_1 : decode cL_permit 1 = .ok (.iload_n 1, 1) := by decide +kernel
theorem dL_permit_2 : decode cL_permit 2 = .ok (.invokevirtual 45, 3) := by decide +kernel
theorem dL_permit_5 : decode cL_permit 5 = .ok (.istore_n 2, 1) := by decide +kernel
theorem dL_permit_6 : decode cL_permit 6 = .ok (.goto 11, 3) := by decide +kernel
theorem dL_permit_9 : decode cL_permit 9 = .ok (.astore_n 3, 1) := by decide +kernel
theorem dL_permit_10 : decode cL_permit 10 = .ok (.bipush (-71), 2) := by decide +kernel
theorem dL_permit_12 : decode cL_permit 12 = .ok (.ireturn, 1) := by decide +kernel
theorem dL_permit_13 : decode cL_permit 13 = .ok (.astore_n 3, 1) := by decide +kernel
theorem dL_permit_14 : decode cL_permit 14 = .ok (.bipush (-73), 2) := by decide +kernel
theorem dL_permit_16 : decode cL_permit 16 = .ok (.ireturn, 1) := by decide +kernel
theorem dL_permit_17 : decode cL_permit 17 = .ok (.iload_n 2, 1) := by decide +kernel
theorem dL_permit_18 : decode cL_permit 18 = .ok (.ireturn, 1) := by decide +kernel
set_option maxRecDepth 20000 in
theorem ggL_handBack_X4_handBack : GoodIn wsL_handBack wsX4_handBack := goodIn_ca (goodIn_ca (goodIn_r _ [7, 8, 9, 10, 11, 12, 13, 14, 15, 16, 17, 18, 19, 20, 21, 22, 23, 24, 25, 26, 27, 28, 29, 30, 31, 32, 33, 34, 35, 36, 37, 38, 39, 40, 41] (by decide +kernel) (by decide +kernel)) (goodIn_sub (fun _ h => List.mem_cons_of_mem _ (List.mem_append_left _ (List.mem_append_right _ h))) (by decide +kernel))) (goodIn_sub (fun _ h => List.mem_cons_of_mem _ (List.mem_append_right _ h)) (by decide +kernel))
set_option maxRecDepth 20000 in
theorem gL_handBack_X4_handBack : GoodIn wsL_handBack (wsV RL 48 RX4 yX4_handBack wsX4_handBack) := goodIn_app (goodIn_of _ (by decide +kernel)) ggL_handBack_X4_handBack
theorem dL_handBack_0 : decode cL_handBack 0 = .ok (.aload_n 0, 1) := by decide +kernel
theorem dL_handBack_1 : decode cL_handBack 1 = .ok (.iload_n 1, 1) := by decide +kernel
theorem dL_handBack_2 : decode cL_handBack 2 = .ok (.invokevirtual 48, 3) := by decide +kernel
theorem dL_handBack_5 : decode cL_handBack 5 = .ok (.istore_n 2, 1) := by decide +kernel
theorem dL_handBack_6 : decode cL_handBack 6 = .ok (.goto 11, 3) := by decide +kernel
theorem dL_handBack_9 : decode cL_handBack 9 = .ok (.astore_n 3, 1) := by decide +kernel
theorem dL_handBack_10 : decode cL_handBack 10 = .ok (.bipush (-72), 2) := by decide +kernel
theorem dL_handBack_12 : decode cL_handBack 12 = .ok (.ireturn, 1) := by decide +kernel
theorem dL_handBack_13 : decode cL_handBack 13 = .ok (.astore_n 3, 1) := by decide +kernel
theorem dL_handBack_14 : decode cL_handBack 14 = .ok (.bipush (-73), 2) := by decide +kernel
theorem dL_handBack_16 : decode cL_handBack 16 = .ok (.ireturn, 1) := by decide +kernel
theorem dL_handBack_17 : decode cL_handBack 17 = .ok (.iload_n 2, 1) := by decide +kernel
theorem dL_handBack_18 : decode cL_handBack 18 = .ok (.ireturn, 1) := by decide +kernel
set_option maxRecDepth 20000 in
theorem ggL_toLive_X4_toLive : GoodIn wsL_toLive ws2X4_toLive := goodIn_ca (goodIn_ca (goodIn_r _ [7, 8, 9, 10, 11, 12, 13, 14, 6, 15, 16, 17, 18, 19, 20, 21, 22, 23, 24, 25, 26, 27, 28, 29, 30, 31, 32, 33, 34, 35, 36, 37, 38, 39, 40, 41, 42, 43, 44, 45, 46, 47, 48, 49, 50, 51, 52, 53] (by decide +kernel) (by decide +kernel)) (goodIn_sub (fun _ h => List.mem_cons_of_mem _ (List.mem_append_left _ (List.mem_append_right _ h))) (by decide +kernel))) (goodIn_sub (fun _ h => List.mem_cons_of_mem _ (List.mem_append_right _ h)) (by decide +kernel))
set_option maxRecDepth 20000 in
theorem gL_toLive_X4_toLive : GoodIn wsL_toLive (wsV RL 51 RX4 yX4_toLive ws2X4_toLive) := goodIn_app (goodIn_of _ (by decide +kernel)) ggL_toLive_X4_toLive
theorem dL_toLive_0 : decode cL_toLive 0 = .ok (.aload_n 0, 1) := by decide +kernel
theorem dL_toLive_1 : decode cL_toLive 1 = .ok (.iload_n 1, 1) := by decide +kernel
theorem dL_toLive_2 : decode cL_toLive 2 = .ok (.invokevirtual 51, 3) := by decide +kernel
theorem dL_toLive_5 : decode cL_toLive 5 = .ok (.istore_n 2, 1) := by decide +kernel
theorem dL_toLive_6 : decode cL_toLive 6 = .ok (.goto 11, 3) := by decide +kernel
theorem dL_toLive_9 : decode cL_toLive 9 = .ok (.astore_n 3, 1) := by decide +kernel
theorem dL_toLive_10 : decode cL_toLive 10 = .ok (.bipush (-72), 2) := by decide +kernel
theorem dL_toLive_12 : decode cL_toLive 12 = .ok (.ireturn, 1) := by decide +kernel
theorem dL_toLive_13 : decode cL_toLive 13 = .ok (.astore_n 3, 1) := by decide +kernel
theorem dL_toLive_14 : decode cL_toLive 14 = .ok (.bipush (-74), 2) := by decide +kernel
theorem dL_toLive_16 : decode cL_toLive 16 = .ok (.ireturn, 1) := by decide +kernel
theorem dL_toLive_17 : decode cL_toLive 17 = .ok (.iload_n 2, 1) := by decide +kernel
theorem dL_toLive_18 : decode cL_toLive 18 = .ok (.ireturn, 1) := by decide +kernel
set_option maxRecDepth 20000 in
theorem ggL_part_X4_part : GoodIn wsL_part wsX4_part := goodIn_ca (goodIn_r _ [6, 7, 8, 9, 10, 11, 5, 12, 13, 14, 15, 16, 17, 18, 19, 20, 21, 22, 23, 24, 25, 26, 27, 28, 29, 30, 31, 32, 33, 34, 35, 36, 37, 38, 39, 40, 41, 42] (by decide +kernel) (by decide +kernel)) (goodIn_sub (fun _ h => List.mem_cons_of_mem _ (List.mem_append_right _ h)) (by decide +kernel))
set_option maxRecDepth 20000 in
theorem gL_part_X4_part : GoodIn wsL_part (wsV RL 56 RX4 yX4_part wsX4_part) := goodIn_app (goodIn_of _ (by decide +kernel)) ggL_part_X4_part
theorem dL_part_0 : decode cL_part 0 = .ok (.aload_n 0, 1) := by decide +kernel
theorem dL_part_1 : decode cL_part 1 = .ok (.iload_n 1, 1) := by decide +kernel
theorem dL_part_2 : decode cL_part 2 = .ok (.invokevirtual 56, 3) := by decide +kernel
theorem dL_part_5 : decode cL_part 5 = .ok (.istore_n 2, 1) := by decide +kernel
theorem dL_part_6 : decode cL_part 6 = .ok (.goto 7, 3) := by decide +kernel
theorem dL_part_9 : decode cL_part 9 = .ok (.astore_n 3, 1) := by decide +kernel
theorem dL_part_10 : decode cL_part 10 = .ok (.bipush (-72), 2) := by decide +kernel
theorem dL_part_12 : decode cL_part 12 = .ok (.ireturn, 1) := by decide +kernel
theorem dL_part_13 : decode cL_part 13 = .ok (.iload_n 2, 1) := by decide +kernel
theorem dL_part_14 : decode cL_part 14 = .ok (.ireturn, 1) := by decide +kernel
theorem dL_lay_0 : decode cL_lay 0 = .ok (.iconst 0, 1) := by decide +kernel
theorem dL_lay_1 : decode cL_lay 1 = .ok (.istore 4, 2) := by decide +kernel
theorem dL_lay_3 : decode cL_lay 3 = .ok (.iload 4, 2) := by decide +kernel
theorem dL_lay_5 : decode cL_lay 5 = .ok (.aload_n 2, 1) := by decide +kernel
theorem dL_lay_6 : decode cL_lay 6 = .ok (.iconst 0, 1) := by decide +kernel
theorem dL_lay_7 : decode cL_lay 7 = .ok (.iaload, 1) := by decide +kernel
theorem dL_lay_8 : decode cL_lay 8 = .ok (.if_icmp .ge 17, 3) := by decide +kernel
theorem dL_lay_11 : decode cL_lay 11 = .ok (.aload_n 1, 1) := by decide +kernel
theorem dL_lay_12 : decode cL_lay 12 = .ok (.iload 4, 2) := by decide +kernel
theorem dL_lay_14 : decode cL_lay 14 = .ok (.iconst 1, 1) := by decide +kernel
theorem dL_lay_15 : decode cL_lay 15 = .ok (.iload 4, 2) := by decide +kernel
theorem dL_lay_17 : decode cL_lay 17 = .ok (.ishl, 1) := by decide +kernel
theorem dL_lay_18 : decode cL_lay 18 = .ok (.iastore, 1) := by decide +kernel
theorem dL_lay_19 : decode cL_lay 19 = .ok (.iinc 4 1, 3) := by decide +kernel
theorem dL_lay_22 : decode cL_lay 22 = .ok (.goto (-19), 3) := by decide +kernel
theorem dL_lay_25 : decode cL_lay 25 = .ok (.iconst 0, 1) := by decide +kernel
theorem dL_lay_26 : decode cL_lay 26 = .ok (.istore 4, 2) := by decide +kernel
theorem dL_lay_28 : decode cL_lay 28 = .ok (.iload 4, 2) := by decide +kernel
theorem dL_lay_30 : decode cL_lay 30 = .ok (.aload_n 2, 1) := by decide +kernel
theorem dL_lay_31 : decode cL_lay 31 = .ok (.iconst 1, 1) := by decide +kernel
theorem dL_lay_32 : decode cL_lay 32 = .ok (.iaload, 1) := by decide +kernel
theorem dL_lay_33 : decode cL_lay 33 = .ok (.if_icmp .ge 78, 3) := by decide +kernel
theorem dL_lay_36 : decode cL_lay 36 = .ok (.iload_n 3, 1) := by decide +kernel
theorem dL_lay_37 : decode cL_lay 37 = .ok (.iload 4, 2) := by decide +kernel
theorem dL_lay_39 : decode cL_lay 39 = .ok (.ishr, 1) := by decide +kernel
theorem dL_lay_40 : decode cL_lay 40 = .ok (.iconst 1, 1) := by decide +kernel
theorem dL_lay_41 : decode cL_lay 41 = .ok (.iand, 1) := by decide +kernel
theorem dL_lay_42 : decode cL_lay 42 = .ok (.ifCond .ne 6, 3) := by decide +kernel
theorem dL_lay_45 : decode cL_lay 45 = .ok (.goto 60, 3) := by decide +kernel
theorem dL_lay_48 : decode cL_lay 48 = .ok (.aload_n 1, 1) := by decide +kernel
theorem dL_lay_49 : decode cL_lay 49 = .ok (.aload_n 0, 1) := by decide +kernel
theorem dL_lay_50 : decode cL_lay 50 = .ok (.iload 4, 2) := by decide +kernel
theorem dL_lay_52 : decode cL_lay 52 = .ok (.iaload, 1) := by decide +kernel
theorem dL_lay_53 : decode cL_lay 53 = .ok (.bipush 15, 2) := by decide +kernel
theorem dL_lay_55 : decode cL_lay 55 = .ok (.iand, 1) := by decide +kernel
theorem dL_lay_56 : decode cL_lay 56 = .ok (.iaload, 1) := by decide +kernel
theorem dL_lay_57 : decode cL_lay 57 = .ok (.aload_n 1, 1) := by decide +kernel
theorem dL_lay_58 : decode cL_lay 58 = .ok (.aload_n 0, 1) := by decide +kernel
theorem dL_lay_59 : decode cL_lay 59 = .ok (.iload 4, 2) := by decide +kernel
theorem dL_lay_61 : decode cL_lay 61 = .ok (.iaload, 1) := by decide +kernel
theorem dL_lay_62 : decode cL_lay 62 = .ok (.iconst 4, 1) := by decide +kernel
theorem dL_lay_63 : decode cL_lay 63 = .ok (.ishr, 1) := by decide +kernel
theorem dL_lay_64 : decode cL_lay 64 = .ok (.bipush 15, 2) := by decide +kernel
theorem dL_lay_66 : decode cL_lay 66 = .ok (.iand, 1) := by decide +kernel
theorem dL_lay_67 : decode cL_lay 67 = .ok (.iaload, 1) := by decide +kernel
theorem dL_lay_68 : decode cL_lay 68 = .ok (.ior, 1) := by decide +kernel
theorem dL_lay_69 : decode cL_lay 69 = .ok (.istore 5, 2) := by decide +kernel
theorem dL_lay_71 : decode cL_lay 71 = .ok (.iconst 0, 1) := by decide +kernel
theorem dL_lay_72 : decode cL_lay 72 = .ok (.istore 6, 2) := by decide +kernel
theorem dL_lay_74 : decode cL_lay 74 = .ok (.iload 6, 2) := by decide +kernel
theorem dL_lay_76 : decode cL_lay 76 = .ok (.aload_n 2, 1) := by decide +kernel
theorem dL_lay_77 : decode cL_lay 77 = .ok (.iconst 0, 1) := by decide +kernel
theorem dL_lay_78 : decode cL_lay 78 = .ok (.iaload, 1) := by decide +kernel
theorem dL_lay_79 : decode cL_lay 79 = .ok (.if_icmp .ge 26, 3) := by decide +kernel
theorem dL_lay_82 : decode cL_lay 82 = .ok (.iload 5, 2) := by decide +kernel
theorem dL_lay_84 : decode cL_lay 84 = .ok (.iload 6, 2) := by decide +kernel
theorem dL_lay_86 : decode cL_lay 86 = .ok (.ishr, 1) := by decide +kernel
theorem dL_lay_87 : decode cL_lay 87 = .ok (.iconst 1, 1) := by decide +kernel
theorem dL_lay_88 : decode cL_lay 88 = .ok (.iand, 1) := by decide +kernel
theorem dL_lay_89 : decode cL_lay 89 = .ok (.iconst 1, 1) := by decide +kernel
theorem dL_lay_90 : decode cL_lay 90 = .ok (.if_icmp .ne 9, 3) := by decide +kernel
theorem dL_lay_93 : decode cL_lay 93 = .ok (.aload_n 1, 1) := by decide +kernel
theorem dL_lay_94 : decode cL_lay 94 = .ok (.iload 6, 2) := by decide +kernel
theorem dL_lay_96 : decode cL_lay 96 = .ok (.iload 5, 2) := by decide +kernel
theorem dL_lay_98 : decode cL_lay 98 = .ok (.iastore, 1) := by decide +kernel
theorem dL_lay_99 : decode cL_lay 99 = .ok (.iinc 6 1, 3) := by decide +kernel
theorem dL_lay_102 : decode cL_lay 102 = .ok (.goto (-28), 3) := by decide +kernel
theorem dL_lay_105 : decode cL_lay 105 = .ok (.iinc 4 1, 3) := by decide +kernel
theorem dL_lay_108 : decode cL_lay 108 = .ok (.goto (-80), 3) := by decide +kernel
theorem dL_lay_111 : decode cL_lay 111 = .ok (.return_, 1) := by decide +kernel
theorem dL_with_0 : decode cL_with 0 = .ok (.iconst 0, 1) := by decide +kernel
theorem dL_with_1 : decode cL_with 1 = .ok (.istore_n 3, 1) := by decide +kernel
theorem dL_with_2 : decode cL_with 2 = .ok (.iconst 0, 1) := by decide +kernel
theorem dL_with_3 : decode cL_with 3 = .ok (.istore 4, 2) := by decide +kernel
theorem dL_with_5 : decode cL_with 5 = .ok (.iload 4, 2) := by decide +kernel
theorem dL_with_7 : decode cL_with 7 = .ok (.aload_n 1, 1) := by decide +kernel
theorem dL_with_8 : decode cL_with 8 = .ok (.iconst 0, 1) := by decide +kernel
theorem dL_with_9 : decode cL_with 9 = .ok (.iaload, 1) := by decide +kernel
theorem dL_with_10 : decode cL_with 10 = .ok (.if_icmp .ge 25, 3) := by decide +kernel
theorem dL_with_13 : decode cL_with 13 = .ok (.aload_n 0, 1) := by decide +kernel
theorem dL_with_14 : decode cL_with 14 = .ok (.iload 4, 2) := by decide +kernel
theorem dL_with_16 : decode cL_with 16 = .ok (.iaload, 1) := by decide +kernel
theorem dL_with_17 : decode cL_with 17 = .ok (.iload_n 2, 1) := by decide +kernel
theorem dL_with_18 : decode cL_with 18 = .ok (.iand, 1) := by decide +kernel
theorem dL_with_19 : decode cL_with 19 = .ok (.ifCond .eq 10, 3) := by decide +kernel
theorem dL_with_22 : decode cL_with 22 = .ok (.iload_n 3, 1) := by decide +kernel
theorem dL_with_23 : decode cL_with 23 = .ok (.iconst 1, 1) := by decide +kernel
theorem dL_with_24 : decode cL_with 24 = .ok (.iload 4, 2) := by decide +kernel
theorem dL_with_26 : decode cL_with 26 = .ok (.ishl, 1) := by decide +kernel
theorem dL_with_27 : decode cL_with 27 = .ok (.ior, 1) := by decide +kernel
theorem dL_with_28 : decode cL_with 28 = .ok (.istore_n 3, 1) := by decide +kernel
theorem dL_with_29 : decode cL_with 29 = .ok (.iinc 4 1, 3) := by decide +kernel
theorem dL_with_32 : decode cL_with 32 = .ok (.goto (-27), 3) := by decide +kernel
theorem dL_with_35 : decode cL_with 35 = .ok (.iload_n 3, 1) := by decide +kernel
theorem dL_with_36 : decode cL_with 36 = .ok (.ireturn, 1) := by decide +kernel
theorem dL_held_0 : decode cL_held 0 = .ok (.iconst 0, 1) := by decide +kernel
theorem dL_held_1 : decode cL_held 1 = .ok (.istore_n 2, 1) := by decide +kernel
theorem dL_held_2 : decode cL_held 2 = .ok (.iconst 0, 1) := by decide +kernel
theorem dL_held_3 : decode cL_held 3 = .ok (.istore_n 3, 1) := by decide +kernel
theorem dL_held_4 : decode cL_held 4 = .ok (.iload_n 3, 1) := by decide +kernel
theorem dL_held_5 : decode cL_held 5 = .ok (.aload_n 1, 1) := by decide +kernel
theorem dL_held_6 : decode cL_held 6 = .ok (.bipush 6, 2) := by decide +kernel
theorem dL_held_8 : decode cL_held 8 = .ok (.iaload, 1) := by decide +kernel
theorem dL_held_9 : decode cL_held 9 = .ok (.if_icmp .ge 15, 3) := by decide +kernel
theorem dL_held_12 : decode cL_held 12 = .ok (.iload_n 2, 1) := by decide +kernel
theorem dL_held_13 : decode cL_held 13 = .ok (.aload_n 0, 1) := by decide +kernel
theorem dL_held_14 : decode cL_held 14 = .ok (.iload_n 3, 1) := by decide +kernel
theorem dL_held_15 : decode cL_held 15 = .ok (.iaload, 1) := by decide +kernel
theorem dL_held_16 : decode cL_held 16 = .ok (.ior, 1) := by decide +kernel
theorem dL_held_17 : decode cL_held 17 = .ok (.istore_n 2, 1) := by decide +kernel
theorem dL_held_18 : decode cL_held 18 = .ok (.iinc 3 1, 3) := by decide +kernel
theorem dL_held_21 : decode cL_held 21 = .ok (.goto (-17), 3) := by decide +kernel
theorem dL_held_24 : decode cL_held 24 = .ok (.iload_n 2, 1) := by decide +kernel
theorem dL_held_25 : decode cL_held 25 = .ok (.ireturn, 1) := by decide +kernel
theorem dL_opposite_0 : decode cL_opposite 0 = .ok (.iload_n 0, 1) := by decide +kernel
theorem dL_opposite_1 : decode cL_opposite 1 = .ok (.bipush 100, 2) := by decide +kernel
theorem dL_opposite_3 : decode cL_opposite 3 = .ok (.idiv, 1) := by decide +kernel
theorem dL_opposite_4 : decode cL_opposite 4 = .ok (.iconst 1, 1) := by decide +kernel
theorem dL_opposite_5 : decode cL_opposite 5 = .ok (.ixor, 1) := by decide +kernel
theorem dL_opposite_6 : decode cL_opposite 6 = .ok (.bipush 100, 2) := by decide +kernel
theorem dL_opposite_8 : decode cL_opposite 8 = .ok (.imul, 1) := by decide +kernel
theorem dL_opposite_9 : decode cL_opposite 9 = .ok (.iload_n 0, 1) := by decide +kernel
theorem dL_opposite_10 : decode cL_opposite 10 = .ok (.bipush 100, 2) := by decide +kernel
theorem dL_opposite_12 : decode cL_opposite 12 = .ok (.irem, 1) := by decide +kernel
theorem dL_opposite_13 : decode cL_opposite 13 = .ok (.iadd, 1) := by decide +kernel
theorem dL_opposite_14 : decode cL_opposite 14 = .ok (.ireturn, 1) := by decide +kernel
set_option maxRecDepth 20000 in
theorem ggL_randomAct_L_low : GoodIn wsL_randomAct wsL_low := goodIn_r _ [4] (by decide +kernel) (by decide +kernel)
set_option maxRecDepth 20000 in
theorem gL_randomAct_L_low : GoodIn wsL_randomAct (va_wsS RL 73 yL_low wsL_low) := goodIn_app (goodIn_of _ (by decide +kernel)) ggL_randomAct_L_low
theorem dL_randomAct_0 : decode cL_randomAct 0 = .ok (.iload_n 0, 1) := by decide +kernel
theorem dL_randomAct_1 : decode cL_randomAct 1 = .ok (.bipush 10, 2) := by decide +kernel
theorem dL_randomAct_3 : decode cL_randomAct 3 = .ok (.invokestatic 73, 3) := by decide +kernel
theorem dL_randomAct_6 : decode cL_randomAct 6 = .ok (.istore_n 2, 1) := by decide +kernel
theorem dL_randomAct_7 : decode cL_randomAct 7 = .ok (.iload_n 2, 1) := by decide +kernel
theorem dL_randomAct_8 : decode cL_randomAct 8 = .ok (.iconst 5, 1) := by decide +kernel
theorem dL_randomAct_9 : decode cL_randomAct 9 = .ok (.if_icmp .le 9, 3) := by decide +kernel
theorem dL_randomAct_12 : decode cL_randomAct 12 = .ok (.iload_n 2, 1) := by decide +kernel
theorem dL_randomAct_13 : decode cL_randomAct 13 = .ok (.iconst 2, 1) := by decide +kernel
theorem dL_randomAct_14 : decode cL_randomAct 14 = .ok (.irem, 1) := by decide +kernel
theorem dL_randomAct_15 : decode cL_randomAct 15 = .ok (.goto 4, 3) := by decide +kernel
theorem dL_randomAct_18 : decode cL_randomAct 18 = .ok (.iload_n 2, 1) := by decide +kernel
theorem dL_randomAct_19 : decode cL_randomAct 19 = .ok (.istore_n 2, 1) := by decide +kernel
theorem dL_randomAct_20 : decode cL_randomAct 20 = .ok (.iload_n 2, 1) := by decide +kernel
theorem dL_randomAct_21 : decode cL_randomAct 21 = .ok (.iconst 2, 1) := by decide +kernel
theorem dL_randomAct_22 : decode cL_randomAct 22 = .ok (.if_icmp .ge 11, 3) := by decide +kernel
theorem dL_randomAct_25 : decode cL_randomAct 25 = .ok (.aload_n 1, 1) := by decide +kernel
theorem dL_randomAct_26 : decode cL_randomAct 26 = .ok (.iconst 1, 1) := by decide +kernel
theorem dL_randomAct_27 : decode cL_randomAct 27 = .ok (.iaload, 1) := by decide +kernel
theorem dL_randomAct_28 : decode cL_randomAct 28 = .ok (.ifCond .ne 5, 3) := by decide +kernel
theorem dL_randomAct_31 : decode cL_randomAct 31 = .ok (.iconst 4, 1) := by decide +kernel
theorem dL_randomAct_32 : decode cL_randomAct 32 = .ok (.istore_n 2, 1) := by decide +kernel
theorem dL_randomAct_33 : decode cL_randomAct 33 = .ok (.bipush 100, 2) := by decide +kernel
theorem dL_randomAct_35 : decode cL_randomAct 35 = .ok (.iload_n 2, 1) := by decide +kernel
theorem dL_randomAct_36 : decode cL_randomAct 36 = .ok (.imul, 1) := by decide +kernel
theorem dL_randomAct_37 : decode cL_randomAct 37 = .ok (.iload_n 0, 1) := by decide +kernel
theorem dL_randomAct_38 : decode cL_randomAct 38 = .ok (.iconst 5, 1) := by decide +kernel
theorem dL_randomAct_39 : decode cL_randomAct 39 = .ok (.ishr, 1) := by decide +kernel
theorem dL_randomAct_40 : decode cL_randomAct 40 = .ok (.iload_n 2, 1) := by decide +kernel
theorem dL_randomAct_41 : decode cL_randomAct 41 = .ok (.iconst 2, 1) := by decide +kernel
theorem dL_randomAct_42 : decode cL_randomAct 42 = .ok (.if_icmp .ge 9, 3) := by decide +kernel
theorem dL_randomAct_45 : decode cL_randomAct 45 = .ok (.aload_n 1, 1) := by decide +kernel
theorem dL_randomAct_46 : decode cL_randomAct 46 = .ok (.iconst 1, 1) := by decide +kernel
theorem dL_randomAct_47 : decode cL_randomAct 47 = .ok (.iaload, 1) := by decide +kernel
theorem dL_randomAct_48 : decode cL_randomAct 48 = .ok (.goto 6, 3) := by decide +kernel
theorem dL_randomAct_51 : decode cL_randomAct 51 = .ok (.aload_n 1, 1) := by decide +kernel
theorem dL_randomAct_52 : decode cL_randomAct 52 = .ok (.iconst 0, 1) := by decide +kernel
theorem dL_randomAct_53 : decode cL_randomAct 53 = .ok (.iaload, 1) := by decide +kernel
theorem dL_randomAct_54 : decode cL_randomAct 54 = .ok (.invokestatic 73, 3) := by decide +kernel
theorem dL_randomAct_57 : decode cL_randomAct 57 = .ok (.iadd, 1) := by decide +kernel
theorem dL_randomAct_58 : decode cL_randomAct 58 = .ok (.ireturn, 1) := by decide +kernel
