theorem dX4_init_0 : decode cX4_init 0 = .ok (.aload_n 0, 1) := by decide +kernel
theorem dX4_init_1 : decode cX4_init 1 = .ok (.invokespecial 1, 3) := by decide +kernel
theorem dX4_init_4 : decode cX4_init 4 = .ok (.aload_n 0, 1) := by decide +kernel
theorem dX4_init_5 : decode cX4_init 5 = .ok (.new 7, 3) := by decide +kernel
theorem dX4_init_8 : decode cX4_init 8 = .ok (.dup, 1) := by decide +kernel
theorem dX4_init_9 : decode cX4_init 9 = .ok (.invokespecial 9, 3) := by decide +kernel
theorem dX4_init_12 : decode cX4_init 12 = .ok (.putfield 10, 3) := by decide +kernel
theorem dX4_init_15 : decode cX4_init 15 = .ok (.aload_n 0, 1) := by decide +kernel
theorem dX4_init_16 : decode cX4_init 16 = .ok (.new 16, 3) := by decide +kernel
theorem dX4_init_19 : decode cX4_init 19 = .ok (.dup, 1) := by decide +kernel
theorem dX4_init_20 : decode cX4_init 20 = .ok (.invokespecial 18, 3) := by decide +kernel
theorem dX4_init_23 : decode cX4_init 23 = .ok (.putfield 19, 3) := by decide +kernel
theorem dX4_init_26 : decode cX4_init 26 = .ok (.aload_n 0, 1) := by decide +kernel
theorem dX4_init_27 : decode cX4_init 27 = .ok (.new 23, 3) := by decide +kernel
theorem dX4_init_30 : decode cX4_init 30 = .ok (.dup, 1) := by decide +kernel
theorem dX4_init_31 : decode cX4_init 31 = .ok (.sipush 200, 3) := by decide +kernel
theorem dX4_init_34 : decode cX4_init 34 = .ok (.invokespecial 25, 3) := by decide +kernel
theorem dX4_init_37 : decode cX4_init 37 = .ok (.putfield 28, 3) := by decide +kernel
theorem dX4_init_40 : decode cX4_init 40 = .ok (.aload_n 0, 1) := by decide +kernel
theorem dX4_init_41 : decode cX4_init 41 = .ok (.new 23, 3) := by decide +kernel
theorem dX4_init_44 : decode cX4_init 44 = .ok (.dup, 1) := by decide +kernel
theorem dX4_init_45 : decode cX4_init 45 = .ok (.bipush 30, 2) := by decide +kernel
theorem dX4_init_47 : decode cX4_init 47 = .ok (.invokespecial 25, 3) := by decide +kernel
theorem dX4_init_50 : decode cX4_init 50 = .ok (.putfield 32, 3) := by decide +kernel
theorem dX4_init_53 : decode cX4_init 53 = .ok (.aload_n 0, 1) := by decide +kernel
theorem dX4_init_54 : decode cX4_init 54 = .ok (.new 35, 3) := by decide +kernel
theorem dX4_init_57 : decode cX4_init 57 = .ok (.dup, 1) := by decide +kernel
theorem dX4_init_58 : decode cX4_init 58 = .ok (.invokespecial 37, 3) := by decide +kernel
theorem dX4_init_61 : decode cX4_init 61 = .ok (.putfield 38, 3) := by decide +kernel
theorem dX4_init_64 : decode cX4_init 64 = .ok (.aload_n 0, 1) := by decide +kernel
theorem dX4_init_65 : decode cX4_init 65 = .ok (.new 16, 3) := by decide +kernel
theorem dX4_init_68 : decode cX4_init 68 = .ok (.dup, 1) := by decide +kernel
theorem dX4_init_69 : decode cX4_init 69 = .ok (.invokespecial 18, 3) := by decide +kernel
theorem dX4_init_72 : decode cX4_init 72 = .ok (.putfield 42, 3) := by decide +kernel
theorem dX4_init_75 : decode cX4_init 75 = .ok (.aload_n 0, 1) := by decide +kernel
theorem dX4_init_76 : decode cX4_init 76 = .ok (.new 16, 3) := by decide +kernel
theorem dX4_init_79 : decode cX4_init 79 = .ok (.dup, 1) := by decide +kernel
theorem dX4_init_80 : decode cX4_init 80 = .ok (.invokespecial 18, 3) := by decide +kernel
theorem dX4_init_83 : decode cX4_init 83 = .ok (.putfield 45, 3) := by decide +kernel
theorem dX4_init_86 : decode cX4_init 86 = .ok (.return_, 1) := by decide +kernel
set_option maxRecDepth 20000 in
theorem ggX4_addNode_X1_nodeCount : GoodIn wsX4_addNode wsX1_nodeCount := goodIn_r _ [8, 9, 23, 24, 25, 26, 27, 28] (by decide +kernel) (by decide +kernel)
set_option maxRecDepth 20000 in
theorem gX4_addNode_X1_nodeCount : GoodIn wsX4_addNode (wsV RX4 48 RX1 yX1_nodeCount wsX1_nodeCount) := goodIn_app (goodIn_of _ (by decide +kernel)) ggX4_addNode_X1_nodeCount
set_option maxRecDepth 20000 in
theorem ggX4_addNode_X1_appendNode : GoodIn wsX4_addNode wsX1_appendNode := goodIn_r _ [13, 9, 14, 15, 23, 24, 25, 26, 27, 28] (by decide +kernel) (by decide +kernel)
set_option maxRecDepth 20000 in
theorem gX4_addNode_X1_appendNode : GoodIn wsX4_addNode (wsV RX4 59 RX1 yX1_appendNode wsX1_appendNode) := goodIn_app (goodIn_of _ (by decide +kernel)) ggX4_addNode_X1_appendNode
theorem dX4_addNode_0 : decode cX4_addNode 0 = .ok (.aload_n 0, 1) := by decide +kernel
theorem dX4_addNode_1 : decode cX4_addNode 1 = .ok (.getfield 10, 3) := by decide +kernel
theorem dX4_addNode_4 : decode cX4_addNode 4 = .ok (.invokevirtual 48, 3) := by decide +kernel
theorem dX4_addNode_7 : decode cX4_addNode 7 = .ok (.bipush 16, 2) := by decide +kernel
theorem dX4_addNode_9 : decode cX4_addNode 9 = .ok (.if_icmp .lt 13, 3) := by decide +kernel
theorem dX4_addNode_12 : decode cX4_addNode 12 = .ok (.new 52, 3) := by decide +kernel
theorem dX4_addNode_15 : decode cX4_addNode 15 = .ok (.dup, 1) := by decide +kernel
theorem dX4_addNode_16 : decode cX4_addNode 16 = .ok (.ldc 54, 2) := by decide +kernel
theorem dX4_addNode_18 : decode cX4_addNode 18 = .ok (.invokespecial 56, 3) := by decide +kernel
theorem dX4_addNode_21 : decode cX4_addNode 21 = .ok (.athrow, 1) := by decide +kernel
theorem dX4_addNode_22 : decode cX4_addNode 22 = .ok (.aload_n 0, 1) := by decide +kernel
theorem dX4_addNode_23 : decode cX4_addNode 23 = .ok (.getfield 10, 3) := by decide +kernel
theorem dX4_addNode_26 : decode cX4_addNode 26 = .ok (.iload_n 1, 1) := by decide +kernel
theorem dX4_addNode_27 : decode cX4_addNode 27 = .ok (.iload_n 2, 1) := by decide +kernel
theorem dX4_addNode_28 : decode cX4_addNode 28 = .ok (.invokevirtual 59, 3) := by decide +kernel
theorem dX4_addNode_31 : decode cX4_addNode 31 = .ok (.ireturn, 1) := by decide +kernel
set_option maxRecDepth 20000 in
theorem ggX4_addSwitch_X4_requireNode : GoodIn wsX4_addSwitch wsX4_requireNode := goodIn_ca (goodIn_r _ [10, 11, 12, 5, 13, 14, 15, 16, 17, 18, 30, 31, 32, 33, 34, 35, 36, 37, 38, 39, 40, 41, 42] (by decide +kernel) (by decide +kernel)) (goodIn_sub (fun _ h => List.mem_cons_of_mem _ (List.mem_append_right _ h)) (by decide +kernel))
set_option maxRecDepth 20000 in
theorem gX4_addSwitch_X4_requireNode : GoodIn wsX4_addSwitch (wsV RX4 63 RX4 yX4_requireNode wsX4_requireNode) := goodIn_app (goodIn_of _ (by decide +kernel)) ggX4_addSwitch_X4_requireNode
set_option maxRecDepth 20000 in
theorem ggX4_addSwitch_X1_switchCount : GoodIn wsX4_addSwitch wsX1_switchCount := goodIn_r _ [22, 23, 37, 38, 39, 40, 41, 42] (by decide +kernel) (by decide +kernel)
set_option maxRecDepth 20000 in
theorem gX4_addSwitch_X1_switchCount : GoodIn wsX4_addSwitch (wsV RX4 71 RX1 yX1_switchCount wsX1_switchCount) := goodIn_app (goodIn_of _ (by decide +kernel)) ggX4_addSwitch_X1_switchCount
set_option maxRecDepth 20000 in
theorem ggX4_addSwitch_X1_appendSwitch : GoodIn wsX4_addSwitch wsX1_appendSwitch := goodIn_r _ [27, 28, 23, 29, 37, 38, 39, 40, 41, 42] (by decide +kernel) (by decide +kernel)
set_option maxRecDepth 20000 in
theorem gX4_addSwitch_X1_appendSwitch : GoodIn wsX4_addSwitch (wsV RX4 76 RX1 yX1_appendSwitch wsX1_appendSwitch) := goodIn_app (goodIn_of _ (by decide +kernel)) ggX4_addSwitch_X1_appendSwitch
theorem dX4_addSwitch_0 : decode cX4_addSwitch 0 = .ok (.aload_n 0, 1) := by decide +kernel
theorem dX4_addSwitch_1 : decode cX4_addSwitch 1 = .ok (.iload_n 1, 1) := by decide +kernel
theorem dX4_addSwitch_2 : decode cX4_addSwitch 2 = .ok (.invokevirtual 63, 3) := by decide +kernel
theorem dX4_addSwitch_5 : decode cX4_addSwitch 5 = .ok (.aload_n 0, 1) := by decide +kernel
theorem dX4_addSwitch_6 : decode cX4_addSwitch 6 = .ok (.iload_n 2, 1) := by decide +kernel
theorem dX4_addSwitch_7 : decode cX4_addSwitch 7 = .ok (.invokevirtual 63, 3) := by decide +kernel
theorem dX4_addSwitch_10 : decode cX4_addSwitch 10 = .ok (.iload_n 1, 1) := by decide +kernel
theorem dX4_addSwitch_11 : decode cX4_addSwitch 11 = .ok (.iload_n 2, 1) := by decide +kernel
theorem dX4_addSwitch_12 : decode cX4_addSwitch 12 = .ok (.if_icmp .ne 13, 3) := by decide +kernel
theorem dX4_addSwitch_15 : decode cX4_addSwitch 15 = .ok (.new 66, 3) := by decide +kernel
theorem dX4_addSwitch_18 : decode cX4_addSwitch 18 = .ok (.dup, 1) := by decide +kernel
theorem dX4_addSwitch_19 : decode cX4_addSwitch 19 = .ok (.ldc 68, 2) := by decide +kernel
theorem dX4_addSwitch_21 : decode cX4_addSwitch 21 = .ok (.invokespecial 70, 3) := by decide +kernel
theorem dX4_addSwitch_24 : decode cX4_addSwitch 24 = .ok (.athrow, 1) := by decide +kernel
theorem dX4_addSwitch_25 : decode cX4_addSwitch 25 = .ok (.aload_n 0, 1) := by decide +kernel
theorem dX4_addSwitch_26 : decode cX4_addSwitch 26 = .ok (.getfield 10, 3) := by decide +kernel
theorem dX4_addSwitch_29 : decode cX4_addSwitch 29 = .ok (.invokevirtual 71, 3) := by decide +kernel
theorem dX4_addSwitch_32 : decode cX4_addSwitch 32 = .ok (.bipush 24, 2) := by decide +kernel
theorem dX4_addSwitch_34 : decode cX4_addSwitch 34 = .ok (.if_icmp .lt 13, 3) := by decide +kernel
theorem dX4_addSwitch_37 : decode cX4_addSwitch 37 = .ok (.new 52, 3) := by decide +kernel
theorem dX4_addSwitch_40 : decode cX4_addSwitch 40 = .ok (.dup, 1) := by decide +kernel
theorem dX4_addSwitch_41 : decode cX4_addSwitch 41 = .ok (.ldc 74, 2) := by decide +kernel
theorem dX4_addSwitch_43 : decode cX4_addSwitch 43 = .ok (.invokespecial 56, 3) := by decide +kernel
theorem dX4_addSwitch_46 : decode cX4_addSwitch 46 = .ok (.athrow, 1) := by decide +kernel
theorem dX4_addSwitch_47 : decode cX4_addSwitch 47 = .ok (.aload_n 0, 1) := by decide +kernel
theorem dX4_addSwitch_48 : decode cX4_addSwitch 48 = .ok (.getfield 10, 3) := by decide +kernel
theorem dX4_addSwitch_51 : decode cX4_addSwitch 51 = .ok (.iload_n 1, 1) := by decide +kernel
theorem dX4_addSwitch_52 : decode cX4_addSwitch 52 = .ok (.iload_n 2, 1) := by decide +kernel
theorem dX4_addSwitch_53 : decode cX4_addSwitch 53 = .ok (.iload_n 3, 1) := by decide +kernel
theorem dX4_addSwitch_54 : decode cX4_addSwitch 54 = .ok (.invokevirtual 76, 3) := by decide +kernel
theorem dX4_addSwitch_57 : decode cX4_addSwitch 57 = .ok (.ireturn, 1) := by decide +kernel
set_option maxRecDepth 20000 in
theorem ggX4_nodes_X1_nodeCount : GoodIn wsX4_nodes wsX1_nodeCount := goodIn_r _ [6, 7, 15, 16, 17, 18, 19, 20] (by decide +kernel) (by decide +kernel)
set_option maxRecDepth 20000 in
theorem gX4_nodes_X1_nodeCount : GoodIn wsX4_nodes (wsV RX4 48 RX1 yX1_nodeCount wsX1_nodeCount) := goodIn_app (goodIn_of _ (by decide +kernel)) ggX4_nodes_X1_nodeCount
theorem dX4_nodes_0 : decode cX4_nodes 0 = .ok (.aload_n 0, 1) := by decide +kernel
theorem dX4_nodes_1 : decode cX4_nodes 1 = .ok (.getfield 10, 3) := by decide +kernel
theorem dX4_nodes_4 : decode cX4_nodes 4 = .ok (.invokevirtual 48, 3) := by decide +kernel
theorem dX4_nodes_7 : decode cX4_nodes 7 = .ok (.ireturn, 1) := by decide +kernel
set_option maxRecDepth 20000 in
theorem ggX4_switches_X1_switchCount : GoodIn wsX4_switches wsX1_switchCount := goodIn_r _ [6, 7, 15, 16, 17, 18, 19, 20] (by decide +kernel) (by decide +kernel)
set_option maxRecDepth 20000 in
theorem gX4_switches_X1_switchCount : GoodIn wsX4_switches (wsV RX4 71 RX1 yX1_switchCount wsX1_switchCount) := goodIn_app (goodIn_of _ (by decide +kernel)) ggX4_switches_X1_switchCount
theorem dX4_switches_0 : decode cX4_switches 0 = .ok (.aload_n 0, 1) := by decide +kernel
theorem dX4_switches_1 : decode cX4_switches 1 = .ok (.getfield 10, 3) := by decide +kernel
theorem dX4_switches_4 : decode cX4_switches 4 = .ok (.invokevirtual 71, 3) := by decide +kernel
theorem dX4_switches_7 : decode cX4_switches 7 = .ok (.ireturn, 1) := by decide +kernel
set_option maxRecDepth 20000 in
theorem ggX4_act_X4_requireAct : GoodIn wsX4_act wsX4_requireAct := goodIn_ca (goodIn_ca (goodIn_r _ [8, 9, 10, 11, 12, 13, 14, 15, 7, 16, 17, 18, 19, 20, 21, 22, 23, 24, 25, 26, 27, 149, 150, 151, 152, 153, 154, 155, 156, 157, 158, 159, 160, 161] (by decide +kernel) (by decide +kernel)) (goodIn_sub (fun _ h => List.mem_cons_of_mem _ (List.mem_append_left _ (List.mem_append_right _ h))) (by decide +kernel))) (goodIn_sub (fun _ h => List.mem_cons_of_mem _ (List.mem_append_right _ h)) (by decide +kernel))
set_option maxRecDepth 20000 in
theorem gX4_act_X4_requireAct : GoodIn wsX4_act (wsV RX4 80 RX4 yX4_requireAct wsX4_requireAct) := goodIn_app (goodIn_of _ (by decide +kernel)) ggX4_act_X4_requireAct
set_option maxRecDepth 20000 in
theorem ggX4_act_X0_size : GoodIn wsX4_act wsX0_size := goodIn_r _ [32, 33, 162, 163] (by decide +kernel) (by decide +kernel)
set_option maxRecDepth 20000 in
theorem gX4_act_X0_size : GoodIn wsX4_act (wsV RX4 84 RX0 yX0_size wsX0_size) := goodIn_app (goodIn_of _ (by decide +kernel)) ggX4_act_X0_size
set_option maxRecDepth 20000 in
theorem ggX4_act_X4_actOf : GoodIn wsX4_act wsX4_actOf := goodIn_r _ [36] (by decide +kernel) (by decide +kernel)
set_option maxRecDepth 20000 in
theorem gX4_act_X4_actOf : GoodIn wsX4_act (va_wsS RX4 89 yX4_actOf wsX4_actOf) := goodIn_app (goodIn_of _ (by decide +kernel)) ggX4_act_X4_actOf
set_option maxRecDepth 20000 in
theorem ggX4_act_X4_doAndLog : GoodIn wsX4_act wsX4_doAndLog := goodIn_r _ [40, 41, 3, 42, 43, 7, 44, 45, 46, 47, 48, 49, 50, 51, 52, 53, 54, 55, 56, 57, 13, 58, 59, 60, 20, 61, 62, 63, 64, 65, 66, 67, 68, 69, 70, 71, 72, 73, 74, 75, 76, 77, 14, 15, 16, 78, 79, 80, 81, 82, 83, 84, 85, 86, 87, 88, 89, 90, 91, 92, 93, 94, 95, 96, 97, 98, 99, 100, 101, 102, 103, 104, 105, 106, 107, 108, 109, 110, 111, 112, 113, 114, 115, 116, 117, 118, 119, 27, 22, 120, 121, 122, 123, 124, 125, 126, 127, 128, 129, 130, 131, 132, 133, 134, 135, 136, 137, 138, 139, 140, 141, 142, 143, 144, 145, 146, 31, 147, 148, 33, 149, 150, 151, 152, 153, 154, 155, 156, 157, 158, 159, 160, 161, 164, 165, 166, 167, 168, 162, 163] (by decide +kernel) (by decide +kernel)
set_option maxRecDepth 20000 in
theorem gX4_act_X4_doAndLog : GoodIn wsX4_act (wsV RX4 93 RX4 yX4_doAndLog wsX4_doAndLog) := goodIn_app (goodIn_of _ (by decide +kernel)) ggX4_act_X4_doAndLog
theorem dX4_act_0 : decode cX4_act 0 = .ok (.aload_n 0, 1) := by decide +kernel
theorem dX4_act_1 : decode cX4_act 1 = .ok (.iload_n 1, 1) := by decide +kernel
theorem dX4_act_2 : decode cX4_act 2 = .ok (.iload_n 2, 1) := by decide +kernel
theorem dX4_act_3 : decode cX4_act 3 = .ok (.invokevirtual 80, 3) := by decide +kernel
theorem dX4_act_6 : decode cX4_act 6 = .ok (.aload_n 0, 1) := by decide +kernel
theorem dX4_act_7 : decode cX4_act 7 = .ok (.getfield 28, 3) := by decide +kernel
theorem dX4_act_10 : decode cX4_act 10 = .ok (.invokevirtual 84, 3) := by decide +kernel
theorem dX4_act_13 : decode cX4_act 13 = .ok (.sipush 200, 3) := by decide +kernel
theorem dX4_act_16 : decode cX4_act 16 = .ok (.if_icmp .lt 13, 3) := by decide +kernel
theorem dX4_act_19 : decode cX4_act 19 = .ok (.new 52, 3) := by decide +kernel
theorem dX4_act_22 : decode cX4_act 22 = .ok (.dup, 1) := by decide +kernel
theorem dX4_act_23 : decode cX4_act 23 = .ok (.ldc 87, 2) := by decide +kernel
theorem dX4_act_25 : decode cX4_act 25 = .ok (.invokespecial 56, 3) := by decide +kernel
theorem dX4_act_28 : decode cX4_act 28 = .ok (.athrow, 1) := by decide +kernel
theorem dX4_act_29 : decode cX4_act 29 = .ok (.aload_n 0, 1) := by decide +kernel
theorem dX4_act_30 : decode cX4_act 30 = .ok (.iload_n 1, 1) := by decide +kernel
theorem dX4_act_31 : decode cX4_act 31 = .ok (.iload_n 2, 1) := by decide +kernel
theorem dX4_act_32 : decode cX4_act 32 = .ok (.invokestatic 89, 3) := by decide +kernel
theorem dX4_act_35 : decode cX4_act 35 = .ok (.invokevirtual 93, 3) := by decide +kernel
theorem dX4_act_38 : decode cX4_act 38 = .ok (.ireturn, 1) := by decide +kernel
set_option maxRecDepth 20000 in
theorem ggX4_reason_X4_requireAct : GoodIn wsX4_reason wsX4_requireAct := goodIn_ca (goodIn_ca (goodIn_r _ [6, 7, 8, 9, 10, 11, 12, 13, 5, 14, 15, 16, 17, 18, 19, 20, 21, 22, 23, 24, 25, 122, 123, 124, 125, 126, 127, 128, 129, 130, 131, 132, 133, 134] (by decide +kernel) (by decide +kernel)) (goodIn_sub (fun _ h => List.mem_cons_of_mem _ (List.mem_append_left _ (List.mem_append_right _ h))) (by decide +kernel))) (goodIn_sub (fun _ h => List.mem_cons_of_mem _ (List.mem_append_right _ h)) (by decide +kernel))
set_option maxRecDepth 20000 in
theorem gX4_reason_X4_requireAct : GoodIn wsX4_reason (wsV RX4 80 RX4 yX4_requireAct wsX4_requireAct) := goodIn_app (goodIn_of _ (by decide +kernel)) ggX4_reason_X4_requireAct
set_option maxRecDepth 20000 in
theorem ggX4_reason_X4_reasonIn : GoodIn wsX4_reason wsX4_reasonIn := goodIn_r _ [29, 30, 31, 32, 33, 34, 5, 35, 11, 36, 37, 38, 18, 39, 40, 41, 42, 43, 44, 45, 46, 47, 48, 49, 50, 51, 52, 53, 54, 55, 12, 13, 14, 56, 57, 58, 59, 60, 61, 62, 63, 64, 65, 66, 67, 68, 69, 70, 71, 72, 73, 74, 75, 76, 77, 78, 79, 80, 81, 82, 83, 84, 85, 86, 87, 88, 89, 90, 91, 92, 93, 94, 95, 96, 97, 25, 20, 98, 99, 100, 101, 102, 103, 104, 105, 106, 107, 108, 109, 110, 111, 112, 113, 114, 115, 116, 117, 118, 119, 120, 121, 122, 123, 124, 125, 126, 127, 128, 129, 130, 131, 132, 133, 134, 135, 136, 137, 138, 139] (by decide +kernel) (by decide +kernel)
set_option maxRecDepth 20000 in
theorem gX4_reason_X4_reasonIn : GoodIn wsX4_reason (wsV RX4 97 RX4 yX4_reasonIn wsX4_reasonIn) := goodIn_app (goodIn_of _ (by decide +kernel)) ggX4_reason_X4_reasonIn
theorem dX4_reason_0 : decode cX4_reason 0 = .ok (.aload_n 0, 1) := by decide +kernel
theorem dX4_reason_1 : decode cX4_reason 1 = .ok (.iload_n 1, 1) := by decide +kernel
theorem dX4_reason_2 : decode cX4_reason 2 = .ok (.iload_n 2, 1) := by decide +kernel
theorem dX4_reason_3 : decode cX4_reason 3 = .ok (.invokevirtual 80, 3) := by decide +kernel
theorem dX4_reason_6 : decode cX4_reason 6 = .ok (.aload_n 0, 1) := by decide +kernel
theorem dX4_reason_7 : decode cX4_reason 7 = .ok (.aload_n 0, 1) := by decide +kernel
theorem dX4_reason_8 : decode cX4_reason 8 = .ok (.getfield 19, 3) := by decide +kernel
theorem dX4_reason_11 : decode cX4_reason 11 = .ok (.iload_n 1, 1) := by decide +kernel
theorem dX4_reason_12 : decode cX4_reason 12 = .ok (.iload_n 2, 1) := by decide +kernel
theorem dX4_reason_13 : decode cX4_reason 13 = .ok (.invokevirtual 97, 3) := by decide +kernel
theorem dX4_reason_16 : decode cX4_reason 16 = .ok (.ireturn, 1) := by decide +kernel
set_option maxRecDepth 20000 in
theorem ggX4_takeBack_X0_size : GoodIn wsX4_takeBack wsX0_size := goodIn_r _ [9, 10, 143, 144] (by decide +kernel) (by decide +kernel)
set_option maxRecDepth 20000 in
theorem gX4_takeBack_X0_size : GoodIn wsX4_takeBack (wsV RX4 84 RX0 yX0_size wsX0_size) := goodIn_app (goodIn_of _ (by decide +kernel)) ggX4_takeBack_X0_size
set_option maxRecDepth 20000 in
theorem ggX4_takeBack_X0_latest : GoodIn wsX4_takeBack wsX0_latest := goodIn_r _ [14, 15, 10, 143, 144] (by decide +kernel) (by decide +kernel)
set_option maxRecDepth 20000 in
theorem gX4_takeBack_X0_latest : GoodIn wsX4_takeBack (wsV RX4 103 RX0 yX0_latest wsX0_latest) := goodIn_app (goodIn_of _ (by decide +kernel)) ggX4_takeBack_X0_latest
set_option maxRecDepth 20000 in
theorem ggX4_takeBack_X4_oppositeOf : GoodIn wsX4_takeBack wsX4_oppositeOf := goodIn_r _ [19, 20, 21, 18, 22, 23, 24, 25, 26, 27, 28] (by decide +kernel) (by decide +kernel)
set_option maxRecDepth 20000 in
theorem gX4_takeBack_X4_oppositeOf : GoodIn wsX4_takeBack (va_wsS RX4 106 yX4_oppositeOf wsX4_oppositeOf) := goodIn_app (goodIn_of _ (by decide +kernel)) ggX4_takeBack_X4_oppositeOf
set_option maxRecDepth 20000 in
theorem ggX4_takeBack_X4_kindOf : GoodIn wsX4_takeBack wsX4_kindOf := goodIn_r _ [22] (by decide +kernel) (by decide +kernel)
set_option maxRecDepth 20000 in
theorem gX4_takeBack_X4_kindOf : GoodIn wsX4_takeBack (va_wsS RX4 109 yX4_kindOf wsX4_kindOf) := goodIn_app (goodIn_of _ (by decide +kernel)) ggX4_takeBack_X4_kindOf
set_option maxRecDepth 20000 in
theorem ggX4_takeBack_X4_whatOf : GoodIn wsX4_takeBack wsX4_whatOf := goodIn_r _ [25] (by decide +kernel) (by decide +kernel)
set_option maxRecDepth 20000 in
theorem gX4_takeBack_X4_whatOf : GoodIn wsX4_takeBack (va_wsS RX4 112 yX4_whatOf wsX4_whatOf) := goodIn_app (goodIn_of _ (by decide +kernel)) ggX4_takeBack_X4_whatOf
set_option maxRecDepth 20000 in
theorem ggX4_takeBack_X4_reasonIn : GoodIn wsX4_takeBack wsX4_reasonIn := goodIn_r _ [32, 33, 34, 35, 36, 37, 18, 38, 39, 40, 41, 42, 43, 44, 45, 46, 47, 48, 49, 50, 51, 52, 53, 54, 55, 56, 57, 58, 59, 60, 61, 62, 63, 64, 65, 66, 67, 68, 69, 70, 71, 72, 73, 74, 75, 76, 77, 78, 79, 80, 81, 82, 83, 84, 85, 86, 87, 88, 89, 90, 91, 92, 93, 94, 95, 96, 97, 98, 99, 100, 101, 102, 103, 104, 105, 106, 107, 108, 109, 110, 111, 112, 113, 114, 115, 116, 117, 118, 119, 120, 121, 122, 123, 124, 125, 126, 127, 128, 129, 130, 131, 136, 137, 138, 139, 140, 141, 142, 145, 146, 147, 148, 149, 150, 151, 152, 153, 154, 155] (by decide +kernel) (by decide +kernel)
set_option maxRecDepth 20000 in
theorem gX4_takeBack_X4_reasonIn : GoodIn wsX4_takeBack (wsV RX4 97 RX4 yX4_reasonIn wsX4_reasonIn) := goodIn_app (goodIn_of _ (by decide +kernel)) ggX4_takeBack_X4_reasonIn
set_option maxRecDepth 20000 in
theorem ggX4_takeBack_X3_flip : GoodIn wsX4_takeBack wsX3_flip := goodIn_r _ [83, 51, 52, 53, 151, 152, 153] (by decide +kernel) (by decide +kernel)
set_option maxRecDepth 20000 in
theorem gX4_takeBack_X3_flip : GoodIn wsX4_takeBack (wsV RX4 115 RX3 yX3_flip wsX3_flip) := goodIn_app (goodIn_of _ (by decide +kernel)) ggX4_takeBack_X3_flip
set_option maxRecDepth 20000 in
theorem ggX4_takeBack_X0_dropLast : GoodIn wsX4_takeBack wsX0_dropLast := goodIn_r _ [135, 10, 143, 144] (by decide +kernel) (by decide +kernel)
set_option maxRecDepth 20000 in
theorem gX4_takeBack_X0_dropLast : GoodIn wsX4_takeBack (wsV RX4 118 RX0 yX0_dropLast wsX0_dropLast) := goodIn_app (goodIn_of _ (by decide +kernel)) ggX4_takeBack_X0_dropLast
theorem dX4_takeBack_0 : decode cX4_takeBack 0 = .ok (.aload_n 0, 1) := by decide +kernel
theorem dX4_takeBack_1 : decode cX4_takeBack 1 = .ok (.getfield 28, 3) := by decide +kernel
theorem dX4_takeBack_4 : decode cX4_takeBack 4 = .ok (.invokevirtual 84, 3) := by decide +kernel
theorem dX4_takeBack_7 : decode cX4_takeBack 7 = .ok (.ifCond .ne 13, 3) := by decide +kernel
theorem dX4_takeBack_10 : decode cX4_takeBack 10 = .ok (.new 52, 3) := by decide +kernel
theorem dX4_takeBack_13 : decode cX4_takeBack 13 = .ok (.dup, 1) := by decide +kernel
theorem dX4_takeBack_14 : decode cX4_takeBack 14 = .ok (.ldc 101, 2) := by decide +kernel
theorem dX4_takeBack_16 : decode cX4_takeBack 16 = .ok (.invokespecial 56, 3) := by decide +kernel
theorem dX4_takeBack_19 : decode cX4_takeBack 19 = .ok (.athrow, 1) := by decide +kernel
theorem dX4_takeBack_20 : decode cX4_takeBack 20 = .ok (.aload_n 0, 1) := by decide +kernel
theorem dX4_takeBack_21 : decode cX4_takeBack 21 = .ok (.getfield 28, 3) := by decide +kernel
theorem dX4_takeBack_24 : decode cX4_takeBack 24 = .ok (.iconst 0, 1) := by decide +kernel
theorem dX4_takeBack_25 : decode cX4_takeBack 25 = .ok (.invokevirtual 103, 3) := by decide +kernel
theorem dX4_takeBack_28 : decode cX4_takeBack 28 = .ok (.invokestatic 106, 3) := by decide +kernel
theorem dX4_takeBack_31 : decode cX4_takeBack 31 = .ok (.istore_n 1, 1) := by decide +kernel
theorem dX4_takeBack_32 : decode cX4_takeBack 32 = .ok (.aload_n 0, 1) := by decide +kernel
theorem dX4_takeBack_33 : decode cX4_takeBack 33 = .ok (.aload_n 0, 1) := by decide +kernel
theorem dX4_takeBack_34 : decode cX4_takeBack 34 = .ok (.getfield 19, 3) := by decide +kernel
theorem dX4_takeBack_37 : decode cX4_takeBack 37 = .ok (.iload_n 1, 1) := by decide +kernel
theorem dX4_takeBack_38 : decode cX4_takeBack 38 = .ok (.invokestatic 109, 3) := by decide +kernel
theorem dX4_takeBack_41 : decode cX4_takeBack 41 = .ok (.iload_n 1, 1) := by decide +kernel
theorem dX4_takeBack_42 : decode cX4_takeBack 42 = .ok (.invokestatic 112, 3) := by decide +kernel
theorem dX4_takeBack_45 : decode cX4_takeBack 45 = .ok (.invokevirtual 97, 3) := by decide +kernel
theorem dX4_takeBack_48 : decode cX4_takeBack 48 = .ok (.istore_n 2, 1) := by decide +kernel
theorem dX4_takeBack_49 : decode cX4_takeBack 49 = .ok (.iload_n 2, 1) := by decide +kernel
theorem dX4_takeBack_50 : decode cX4_takeBack 50 = .ok (.ifCond .ne 25, 3) := by decide +kernel
theorem dX4_takeBack_53 : decode cX4_takeBack 53 = .ok (.aload_n 0, 1) := by decide +kernel
theorem dX4_takeBack_54 : decode cX4_takeBack 54 = .ok (.getfield 19, 3) := by decide +kernel
theorem dX4_takeBack_57 : decode cX4_takeBack 57 = .ok (.iload_n 1, 1) := by decide +kernel
theorem dX4_takeBack_58 : decode cX4_takeBack 58 = .ok (.invokestatic 109, 3) := by decide +kernel
theorem dX4_takeBack_61 : decode cX4_takeBack 61 = .ok (.iload_n 1, 1) := by decide +kernel
theorem dX4_takeBack_62 : decode cX4_takeBack 62 = .ok (.invokestatic 112, 3) := by decide +kernel
theorem dX4_takeBack_65 : decode cX4_takeBack 65 = .ok (.invokevirtual 115, 3) := by decide +kernel
theorem dX4_takeBack_68 : decode cX4_takeBack 68 = .ok (.aload_n 0, 1) := by decide +kernel
theorem dX4_takeBack_69 : decode cX4_takeBack 69 = .ok (.getfield 28, 3) := by decide +kernel
theorem dX4_takeBack_72 : decode cX4_takeBack 72 = .ok (.invokevirtual 118, 3) := by decide +kernel
theorem dX4_takeBack_75 : decode cX4_takeBack 75 = .ok (.iload_n 2, 1) := by decide +kernel
theorem dX4_takeBack_76 : decode cX4_takeBack 76 = .ok (.ireturn, 1) := by decide +kernel
set_option maxRecDepth 20000 in
theorem ggX4_log_X0_size : GoodIn wsX4_log wsX0_size := goodIn_r _ [6, 7, 15, 16] (by decide +kernel) (by decide +kernel)
set_option maxRecDepth 20000 in
theorem gX4_log_X0_size : GoodIn wsX4_log (wsV RX4 84 RX0 yX0_size wsX0_size) := goodIn_app (goodIn_of _ (by decide +kernel)) ggX4_log_X0_size
theorem dX4_log_0 : decode cX4_log 0 = .ok (.aload_n 0, 1) := by decide +kernel
theorem dX4_log_1 : decode cX4_log 1 = .ok (.getfield 28, 3) := by decide +kernel
theorem dX4_log_4 : decode cX4_log 4 = .ok (.invokevirtual 84, 3) := by decide +kernel
theorem dX4_log_7 : decode cX4_log 7 = .ok (.ireturn, 1) := by decide +kernel
set_option maxRecDepth 20000 in
theorem ggX4_logged_X0_size : GoodIn wsX4_logged wsX0_size := goodIn_r _ [8, 9, 22, 23] (by decide +kernel) (by decide +kernel)
set_option maxRecDepth 20000 in
theorem gX4_logged_X0_size : GoodIn wsX4_logged (wsV RX4 84 RX0 yX0_size wsX0_size) := goodIn_app (goodIn_of _ (by decide +kernel)) ggX4_logged_X0_size
set_option maxRecDepth 20000 in
theorem ggX4_logged_X0_latest : GoodIn wsX4_logged wsX0_latest := goodIn_r _ [13, 14, 9, 22, 23] (by decide +kernel) (by decide +kernel)
set_option maxRecDepth 20000 in
theorem gX4_logged_X0_latest : GoodIn wsX4_logged (wsV RX4 103 RX0 yX0_latest wsX0_latest) := goodIn_app (goodIn_of _ (by decide +kernel)) ggX4_logged_X0_latest
theorem dX4_logged_0 : decode cX4_logged 0 = .ok (.iload_n 1, 1) := by decide +kernel
theorem dX4_logged_1 : decode cX4_logged 1 = .ok (.ifCond .lt 14, 3) := by decide +kernel
theorem dX4_logged_4 : decode cX4_logged 4 = .ok (.iload_n 1, 1) := by decide +kernel
theorem dX4_logged_5 : decode cX4_logged 5 = .ok (.aload_n 0, 1) := by decide +kernel
theorem dX4_logged_6 : decode cX4_logged 6 = .ok (.getfield 28, 3) := by decide +kernel
theorem dX4_logged_9 : decode cX4_logged 9 = .ok (.invokevirtual 84, 3) := by decide +kernel
theorem dX4_logged_12 : decode cX4_logged 12 = .ok (.if_icmp .lt 13, 3) := by decide +kernel
theorem dX4_logged_15 : decode cX4_logged 15 = .ok (.new 121, 3) := by decide +kernel
theorem dX4_logged_18 : decode cX4_logged 18 = .ok (.dup, 1) := by decide +kernel
theorem dX4_logged_19 : decode cX4_logged 19 = .ok (.ldc 123, 2) := by decide +kernel
theorem dX4_logged_21 : decode cX4_logged 21 = .ok (.invokespecial 125, 3) := by decide +kernel
theorem dX4_logged_24 : decode cX4_logged 24 = .ok (.athrow, 1) := by decide +kernel
theorem dX4_logged_25 : decode cX4_logged 25 = .ok (.aload_n 0, 1) := by decide +kernel
theorem dX4_logged_26 : decode cX4_logged 26 = .ok (.getfield 28, 3) := by decide +kernel
theorem dX4_logged_29 : decode cX4_logged 29 = .ok (.iload_n 1, 1) := by decide +kernel
theorem dX4_logged_30 : decode cX4_logged 30 = .ok (.invokevirtual 103, 3) := by decide +kernel
theorem dX4_logged_33 : decode cX4_logged 33 = .ok (.ireturn, 1) := by decide +kernel
set_option maxRecDepth 20000 in
theorem ggX4_times_X4_requireAct : GoodIn wsX4_times wsX4_requireAct := goodIn_ca (goodIn_ca (goodIn_r _ [6, 7, 8, 9, 10, 11, 12, 13, 5, 14, 15, 16, 17, 18, 19, 20, 21, 22, 23, 24, 25, 36, 37, 38, 39, 40, 41, 42, 43, 44, 45, 46, 47, 48] (by decide +kernel) (by decide +kernel)) (goodIn_sub (fun _ h => List.mem_cons_of_mem _ (List.mem_append_left _ (List.mem_append_right _ h))) (by decide +kernel))) (goodIn_sub (fun _ h => List.mem_cons_of_mem _ (List.mem_append_right _ h)) (by decide +kernel))
set_option maxRecDepth 20000 in
theorem gX4_times_X4_requireAct : GoodIn wsX4_times (wsV RX4 80 RX4 yX4_requireAct wsX4_requireAct) := goodIn_app (goodIn_of _ (by decide +kernel)) ggX4_times_X4_requireAct
set_option maxRecDepth 20000 in
theorem ggX4_times_X4_actOf : GoodIn wsX4_times wsX4_actOf := goodIn_r _ [28] (by decide +kernel) (by decide +kernel)
set_option maxRecDepth 20000 in
theorem gX4_times_X4_actOf : GoodIn wsX4_times (va_wsS RX4 89 yX4_actOf wsX4_actOf) := goodIn_app (goodIn_of _ (by decide +kernel)) ggX4_times_X4_actOf
set_option maxRecDepth 20000 in
theorem ggX4_times_X0_count : GoodIn wsX4_times wsX0_count := goodIn_r _ [33, 34, 35, 49, 50] (by decide +kernel) (by decide +kernel)
set_option maxRecDepth 20000 in
theorem gX4_times_X0_count : GoodIn wsX4_times (wsV RX4 126 RX0 yX0_count wsX0_count) := goodIn_app (goodIn_of _ (by decide +kernel)) ggX4_times_X0_count
theorem dX4_times_0 : decode cX4_times 0 = .ok (.aload_n 0, 1) := by decide +kernel
theorem dX4_times_1 : decode cX4_times 1 = .ok (.iload_n 1, 1) := by decide +kernel
theorem dX4_times_2 : decode cX4_times 2 = .ok (.iload_n 2, 1) := by decide +kernel
theorem dX4_times_3 : decode cX4_times 3 = .ok (.invokevirtual 80, 3) := by decide +kernel
theorem dX4_times_6 : decode cX4_times 6 = .ok (.aload_n 0, 1) := by decide +kernel
theorem dX4_times_7 : decode cX4_times 7 = .ok (.getfield 28, 3) := by decide +kernel
theorem dX4_times_10 : decode cX4_times 10 = .ok (.iload_n 1, 1) := by decide +kernel
theorem dX4_times_11 : decode cX4_times 11 = .ok (.iload_n 2, 1) := by decide +kernel
theorem dX4_times_12 : decode cX4_times 12 = .ok (.invokestatic 89, 3) := by decide +kernel
theorem dX4_times_15 : decode cX4_times 15 = .ok (.invokevirtual 126, 3) := by decide +kernel
theorem dX4_times_18 : decode cX4_times 18 = .ok (.ireturn, 1) := by decide +kernel
set_option maxRecDepth 20000 in
theorem ggX4_write_X4_requireAct : GoodIn wsX4_write wsX4_requireAct := goodIn_ca (goodIn_ca (goodIn_r _ [8, 9, 10, 11, 12, 13, 14, 15, 7, 16, 17, 18, 19, 20, 21, 22, 23, 24, 25, 26, 27, 42, 43, 44, 45, 46, 47, 48, 49, 50, 51, 52, 53, 54] (by decide +kernel) (by decide +kernel)) (goodIn_sub (fun _ h => List.mem_cons_of_mem _ (List.mem_append_left _ (List.mem_append_right _ h))) (by decide +kernel))) (goodIn_sub (fun _ h => List.mem_cons_of_mem _ (List.mem_append_right _ h)) (by decide +kernel))
set_option maxRecDepth 20000 in
theorem gX4_write_X4_requireAct : GoodIn wsX4_write (wsV RX4 80 RX4 yX4_requireAct wsX4_requireAct) := goodIn_app (goodIn_of _ (by decide +kernel)) ggX4_write_X4_requireAct
set_option maxRecDepth 20000 in
theorem ggX4_write_X0_size : GoodIn wsX4_write wsX0_size := goodIn_r _ [32, 33, 55, 56] (by decide +kernel) (by decide +kernel)
set_option maxRecDepth 20000 in
theorem gX4_write_X0_size : GoodIn wsX4_write (wsV RX4 84 RX0 yX0_size wsX0_size) := goodIn_app (goodIn_of _ (by decide +kernel)) ggX4_write_X0_size
set_option maxRecDepth 20000 in
theorem ggX4_write_X4_actOf : GoodIn wsX4_write wsX4_actOf := goodIn_r _ [36] (by decide +kernel) (by decide +kernel)
set_option maxRecDepth 20000 in
theorem gX4_write_X4_actOf : GoodIn wsX4_write (va_wsS RX4 89 yX4_actOf wsX4_actOf) := goodIn_app (goodIn_of _ (by decide +kernel)) ggX4_write_X4_actOf
set_option maxRecDepth 20000 in
theorem ggX4_write_X0_append : GoodIn wsX4_write wsX0_append := goodIn_r _ [40, 41, 33, 55, 56] (by decide +kernel) (by decide +kernel)
set_option maxRecDepth 20000 in
theorem gX4_write_X0_append : GoodIn wsX4_write (wsV RX4 131 RX0 yX0_append wsX0_append) := goodIn_app (goodIn_of _ (by decide +kernel)) ggX4_write_X0_append
theorem dX4_write_0 : decode cX4_write 0 = .ok (.aload_n 0, 1) := by decide +kernel
theorem dX4_write_1 : decode cX4_write 1 = .ok (.iload_n 1, 1) := by decide +kernel
theorem dX4_write_2 : decode cX4_write 2 = .ok (.iload_n 2, 1) := by decide +kernel
theorem dX4_write_3 : decode cX4_write 3 = .ok (.invokevirtual 80, 3) := by decide +kernel
theorem dX4_write_6 : decode cX4_write 6 = .ok (.aload_n 0, 1) := by decide +kernel
theorem dX4_write_7 : decode cX4_write 7 = .ok (.getfield 32, 3) := by decide +kernel
theorem dX4_write_10 : decode cX4_write 10 = .ok (.invokevirtual 84, 3) := by decide +kernel
theorem dX4_write_13 : decode cX4_write 13 = .ok (.bipush 30, 2) := by decide +kernel
theorem dX4_write_15 : decode cX4_write 15 = .ok (.if_icmp .lt 13, 3) := by decide +kernel
theorem dX4_write_18 : decode cX4_write 18 = .ok (.new 52, 3) := by decide +kernel
theorem dX4_write_21 : decode cX4_write 21 = .ok (.dup, 1) := by decide +kernel
theorem dX4_write_22 : decode cX4_write 22 = .ok (.ldc 129, 2) := by decide +kernel
theorem dX4_write_24 : decode cX4_write 24 = .ok (.invokespecial 56, 3) := by decide +kernel
theorem dX4_write_27 : decode cX4_write 27 = .ok (.athrow, 1) := by decide +kernel
theorem dX4_write_28 : decode cX4_write 28 = .ok (.aload_n 0, 1) := by decide +kernel
theorem dX4_write_29 : decode cX4_write 29 = .ok (.getfield 32, 3) := by decide +kernel
theorem dX4_write_32 : decode cX4_write 32 = .ok (.iload_n 1, 1) := by decide +kernel
theorem dX4_write_33 : decode cX4_write 33 = .ok (.iload_n 2, 1) := by decide +kernel
theorem dX4_write_34 : decode cX4_write 34 = .ok (.invokestatic 89, 3) := by decide +kernel
theorem dX4_write_37 : decode cX4_write 37 = .ok (.invokevirtual 131, 3) := by decide +kernel
theorem dX4_write_40 : decode cX4_write 40 = .ok (.aload_n 0, 1) := by decide +kernel
theorem dX4_write_41 : decode cX4_write 41 = .ok (.getfield 32, 3) := by decide +kernel
theorem dX4_write_44 : decode cX4_write 44 = .ok (.invokevirtual 84, 3) := by decide +kernel
theorem dX4_write_47 : decode cX4_write 47 = .ok (.ireturn, 1) := by decide +kernel
set_option maxRecDepth 20000 in
theorem ggX4_erase_X0_size : GoodIn wsX4_erase wsX0_size := goodIn_r _ [6, 7, 20, 21] (by decide +kernel) (by decide +kernel)
set_option maxRecDepth 20000 in
theorem gX4_erase_X0_size : GoodIn wsX4_erase (wsV RX4 84 RX0 yX0_size wsX0_size) := goodIn_app (goodIn_of _ (by decide +kernel)) ggX4_erase_X0_size
set_option maxRecDepth 20000 in
theorem ggX4_erase_X0_dropFirst : GoodIn wsX4_erase wsX0_dropFirst := goodIn_r _ [11, 7, 12, 20, 21] (by decide +kernel) (by decide +kernel)
set_option maxRecDepth 20000 in
theorem gX4_erase_X0_dropFirst : GoodIn wsX4_erase (wsV RX4 134 RX0 yX0_dropFirst wsX0_dropFirst) := goodIn_app (goodIn_of _ (by decide +kernel)) ggX4_erase_X0_dropFirst
theorem dX4_erase_0 : decode cX4_erase 0 = .ok (.aload_n 0, 1) := by decide +kernel
theorem dX4_erase_1 : decode cX4_erase 1 = .ok (.getfield 32, 3) := by decide +kernel
theorem dX4_erase_4 : decode cX4_erase 4 = .ok (.invokevirtual 84, 3) := by decide +kernel
theorem dX4_erase_7 : decode cX4_erase 7 = .ok (.istore_n 1, 1) := by decide +kernel
theorem dX4_erase_8 : decode cX4_erase 8 = .ok (.aload_n 0, 1) := by decide +kernel
theorem dX4_erase_9 : decode cX4_erase 9 = .ok (.getfield 32, 3) := by decide +kernel
theorem dX4_erase_12 : decode cX4_erase 12 = .ok (.iload_n 1, 1) := by decide +kernel
theorem dX4_erase_13 : decode cX4_erase 13 = .ok (.invokevirtual 134, 3) := by decide +kernel
theorem dX4_erase_16 : decode cX4_erase 16 = .ok (.iload_n 1, 1) := by decide +kernel
theorem dX4_erase_17 : decode cX4_erase 17 = .ok (.ireturn, 1) := by decide +kernel
set_option maxRecDepth 20000 in
theorem ggX4_check_X3_copyFrom : GoodIn wsX4_check wsX3_copyFrom := goodIn_r _ [8, 9, 10, 11, 132, 133, 134] (by decide +kernel) (by decide +kernel)
set_option maxRecDepth 20000 in
theorem gX4_check_X3_copyFrom : GoodIn wsX4_check (wsV RX4 137 RX3 yX3_copyFrom wsX3_copyFrom) := goodIn_app (goodIn_of _ (by decide +kernel)) ggX4_check_X3_copyFrom
set_option maxRecDepth 20000 in
theorem ggX4_check_X0_size : GoodIn wsX4_check wsX0_size := goodIn_r _ [16, 17, 135, 136] (by decide +kernel) (by decide +kernel)
set_option maxRecDepth 20000 in
theorem gX4_check_X0_size : GoodIn wsX4_check (wsV RX4 84 RX0 yX0_size wsX0_size) := goodIn_app (goodIn_of _ (by decide +kernel)) ggX4_check_X0_size
set_option maxRecDepth 20000 in
theorem ggX4_check_X0_get : GoodIn wsX4_check wsX0_get := goodIn_r _ [21, 22, 135, 136] (by decide +kernel) (by decide +kernel)
set_option maxRecDepth 20000 in
theorem gX4_check_X0_get : GoodIn wsX4_check (wsV RX4 141 RX0 yX0_get wsX0_get) := goodIn_app (goodIn_of _ (by decide +kernel)) ggX4_check_X0_get
set_option maxRecDepth 20000 in
theorem ggX4_check_X4_kindOf : GoodIn wsX4_check wsX4_kindOf := goodIn_r _ [26] (by decide +kernel) (by decide +kernel)
set_option maxRecDepth 20000 in
theorem gX4_check_X4_kindOf : GoodIn wsX4_check (va_wsS RX4 109 yX4_kindOf wsX4_kindOf) := goodIn_app (goodIn_of _ (by decide +kernel)) ggX4_check_X4_kindOf
set_option maxRecDepth 20000 in
theorem ggX4_check_X4_whatOf : GoodIn wsX4_check wsX4_whatOf := goodIn_r _ [29] (by decide +kernel) (by decide +kernel)
set_option maxRecDepth 20000 in
theorem gX4_check_X4_whatOf : GoodIn wsX4_check (va_wsS RX4 112 yX4_whatOf wsX4_whatOf) := goodIn_app (goodIn_of _ (by decide +kernel)) ggX4_check_X4_whatOf
set_option maxRecDepth 20000 in
theorem ggX4_check_X4_reasonIn : GoodIn wsX4_check wsX4_reasonIn := goodIn_r _ [33, 34, 35, 36, 37, 38, 25, 39, 40, 41, 42, 43, 44, 45, 46, 47, 48, 49, 7, 50, 9, 10, 11, 51, 52, 53, 54, 55, 56, 57, 58, 59, 60, 61, 62, 63, 64, 65, 66, 67, 68, 69, 70, 71, 72, 4, 5, 6, 8, 73, 74, 75, 76, 77, 78, 79, 80, 81, 82, 83, 84, 85, 86, 87, 88, 89, 90, 91, 92, 93, 94, 95, 96, 97, 98, 99, 100, 101, 102, 103, 104, 105, 106, 107, 108, 109, 110, 111, 112, 113, 114, 115, 116, 117, 118, 119, 120, 121, 122, 123, 124, 125, 126, 127, 128, 129, 130, 131, 137, 138, 139, 140, 141, 142, 132, 133, 134, 143, 144] (by decide +kernel) (by decide +kernel)
set_option maxRecDepth 20000 in
theorem gX4_check_X4_reasonIn : GoodIn wsX4_check (wsV RX4 97 RX4 yX4_reasonIn wsX4_reasonIn) := goodIn_app (goodIn_of _ (by decide +kernel)) ggX4_check_X4_reasonIn
set_option maxRecDepth 20000 in
theorem ggX4_check_X3_flip : GoodIn wsX4_check wsX3_flip := goodIn_r _ [76, 9, 10, 11, 132, 133, 134] (by decide +kernel) (by decide +kernel)
set_option maxRecDepth 20000 in
theorem gX4_check_X3_flip : GoodIn wsX4_check (wsV RX4 115 RX3 yX3_flip wsX3_flip) := goodIn_app (goodIn_of _ (by decide +kernel)) ggX4_check_X3_flip
theorem dX4_check_0 : decode cX4_check 0 = .ok (.aload_n 0, 1) := by decide +kernel
theorem dX4_check_1 : decode cX4_check 1 = .ok (.getfield 42, 3) := by decide +kernel
theorem dX4_check_4 : decode cX4_check 4 = .ok (.aload_n 0, 1) := by decide +kernel
theorem dX4_check_5 : decode cX4_check 5 = .ok (.getfield 19, 3) := by decide +kernel
theorem dX4_check_8 : decode cX4_check 8 = .ok (.invokevirtual 137, 3) := by decide +kernel
theorem dX4_check_11 : decode cX4_check 11 = .ok (.iconst 0, 1) := by decide +kernel
theorem dX4_check_12 : decode cX4_check 12 = .ok (.istore_n 1, 1) := by decide +kernel
theorem dX4_check_13 : decode cX4_check 13 = .ok (.iload_n 1, 1) := by decide +kernel
theorem dX4_check_14 : decode cX4_check 14 = .ok (.aload_n 0, 1) := by decide +kernel
theorem dX4_check_15 : decode cX4_check 15 = .ok (.getfield 32, 3) := by decide +kernel
theorem dX4_check_18 : decode cX4_check 18 = .ok (.invokevirtual 84, 3) := by decide +kernel
theorem dX4_check_21 : decode cX4_check 21 = .ok (.if_icmp .ge 54, 3) := by decide +kernel
theorem dX4_check_24 : decode cX4_check 24 = .ok (.aload_n 0, 1) := by decide +kernel
theorem dX4_check_25 : decode cX4_check 25 = .ok (.getfield 32, 3) := by decide +kernel
theorem dX4_check_28 : decode cX4_check 28 = .ok (.iload_n 1, 1) := by decide +kernel
theorem dX4_check_29 : decode cX4_check 29 = .ok (.invokevirtual 141, 3) := by decide +kernel
theorem dX4_check_32 : decode cX4_check 32 = .ok (.istore_n 2, 1) := by decide +kernel
theorem dX4_check_33 : decode cX4_check 33 = .ok (.aload_n 0, 1) := by decide +kernel
theorem dX4_check_34 : decode cX4_check 34 = .ok (.aload_n 0, 1) := by decide +kernel
theorem dX4_check_35 : decode cX4_check 35 = .ok (.getfield 42, 3) := by decide +kernel
theorem dX4_check_38 : decode cX4_check 38 = .ok (.iload_n 2, 1) := by decide +kernel
theorem dX4_check_39 : decode cX4_check 39 = .ok (.invokestatic 109, 3) := by decide +kernel
theorem dX4_check_42 : decode cX4_check 42 = .ok (.iload_n 2, 1) := by decide +kernel
theorem dX4_check_43 : decode cX4_check 43 = .ok (.invokestatic 112, 3) := by decide +kernel
theorem dX4_check_46 : decode cX4_check 46 = .ok (.invokevirtual 97, 3) := by decide +kernel
theorem dX4_check_49 : decode cX4_check 49 = .ok (.ifCond .eq 5, 3) := by decide +kernel
theorem dX4_check_52 : decode cX4_check 52 = .ok (.iload_n 1, 1) := by decide +kernel
theorem dX4_check_53 : decode cX4_check 53 = .ok (.ireturn, 1) := by decide +kernel
theorem dX4_check_54 : decode cX4_check 54 = .ok (.aload_n 0, 1) := by decide +kernel
theorem dX4_check_55 : decode cX4_check 55 = .ok (.getfield 42, 3) := by decide +kernel
theorem dX4_check_58 : decode cX4_check 58 = .ok (.iload_n 2, 1) := by decide +kernel
theorem dX4_check_59 : decode cX4_check 59 = .ok (.invokestatic 109, 3) := by decide +kernel
theorem dX4_check_62 : decode cX4_check 62 = .ok (.iload_n 2, 1) := by decide +kernel
theorem dX4_check_63 : decode cX4_check 63 = .ok (.invokestatic 112, 3) := by decide +kernel
theorem dX4_check_66 : decode cX4_check 66 = .ok (.invokevirtual 115, 3) := by decide +kernel
theorem dX4_check_69 : decode cX4_check 69 = .ok (.iinc 1 1, 3) := by decide +kernel
theorem dX4_check_72 : decode cX4_check 72 = .ok (.goto (-59), 3) := by decide +kernel
theorem dX4_check_75 : decode cX4_check 75 = .ok (.aload_n 0, 1) := by decide +kernel
theorem dX4_check_76 : decode cX4_check 76 = .ok (.getfield 32, 3) := by decide +kernel
theorem dX4_check_79 : decode cX4_check 79 = .ok (.invokevirtual 84, 3) := by decide +kernel
theorem dX4_check_82 : decode cX4_check 82 = .ok (.ireturn, 1) := by decide +kernel
set_option maxRecDepth 20000 in
theorem ggX4_carryOut_X0_size : GoodIn wsX4_carryOut wsX0_size := goodIn_r _ [15, 16, 152, 153] (by decide +kernel) (by decide +kernel)
set_option maxRecDepth 20000 in
theorem gX4_carryOut_X0_size : GoodIn wsX4_carryOut (wsV RX4 84 RX0 yX0_size wsX0_size) := goodIn_app (goodIn_of _ (by decide +kernel)) ggX4_carryOut_X0_size
set_option maxRecDepth 20000 in
theorem ggX4_carryOut_X0_get : GoodIn wsX4_carryOut wsX0_get := goodIn_r _ [20, 21, 152, 153] (by decide +kernel) (by decide +kernel)
set_option maxRecDepth 20000 in
theorem gX4_carryOut_X0_get : GoodIn wsX4_carryOut (wsV RX4 141 RX0 yX0_get wsX0_get) := goodIn_app (goodIn_of _ (by decide +kernel)) ggX4_carryOut_X0_get
set_option maxRecDepth 20000 in
theorem ggX4_carryOut_X4_doAndLog : GoodIn wsX4_carryOut wsX4_doAndLog := goodIn_r _ [26, 27, 10, 28, 29, 25, 30, 31, 32, 33, 34, 35, 36, 37, 38, 39, 40, 41, 42, 43, 44, 45, 46, 47, 48, 49, 50, 51, 52, 53, 54, 55, 56, 57, 58, 59, 60, 61, 62, 63, 64, 65, 66, 67, 68, 69, 70, 71, 72, 73, 74, 75, 76, 77, 78, 79, 80, 81, 82, 83, 84, 85, 86, 87, 88, 89, 90, 91, 92, 93, 94, 95, 96, 97, 98, 99, 100, 101, 102, 103, 104, 105, 106, 107, 108, 109, 110, 111, 112, 113, 114, 115, 116, 117, 118, 119, 120, 121, 122, 123, 124, 125, 126, 127, 128, 129, 130, 131, 132, 133, 134, 135, 136, 137, 138, 139, 14, 140, 21, 16, 145, 146, 147, 148, 149, 150, 151, 154, 155, 156, 157, 158, 159, 160, 161, 162, 163, 164, 152, 153] (by decide +kernel) (by decide +kernel)
set_option maxRecDepth 20000 in
theorem gX4_carryOut_X4_doAndLog : GoodIn wsX4_carryOut (wsV RX4 93 RX4 yX4_doAndLog wsX4_doAndLog) := goodIn_app (goodIn_of _ (by decide +kernel)) ggX4_carryOut_X4_doAndLog
set_option maxRecDepth 20000 in
theorem ggX4_carryOut_X0_dropFirst : GoodIn wsX4_carryOut wsX0_dropFirst := goodIn_r _ [144, 16, 21, 152, 153] (by decide +kernel) (by decide +kernel)
set_option maxRecDepth 20000 in
theorem gX4_carryOut_X0_dropFirst : GoodIn wsX4_carryOut (wsV RX4 134 RX0 yX0_dropFirst wsX0_dropFirst) := goodIn_app (goodIn_of _ (by decide +kernel)) ggX4_carryOut_X0_dropFirst
theorem dX4_carryOut_0 : decode cX4_carryOut 0 = .ok (.iload_n 1, 1) := by decide +kernel
theorem dX4_carryOut_1 : decode cX4_carryOut 1 = .ok (.iconst 1, 1) := by decide +kernel
theorem dX4_carryOut_2 : decode cX4_carryOut 2 = .ok (.if_icmp .lt 9, 3) := by decide +kernel
theorem dX4_carryOut_5 : decode cX4_carryOut 5 = .ok (.iload_n 1, 1) := by decide +kernel
theorem dX4_carryOut_6 : decode cX4_carryOut 6 = .ok (.bipush 30, 2) := by decide +kernel
theorem dX4_carryOut_8 : decode cX4_carryOut 8 = .ok (.if_icmp .le 13, 3) := by decide +kernel
theorem dX4_carryOut_11 : decode cX4_carryOut 11 = .ok (.new 66, 3) := by decide +kernel
theorem dX4_carryOut_14 : decode cX4_carryOut 14 = .ok (.dup, 1) := by decide +kernel
theorem dX4_carryOut_15 : decode cX4_carryOut 15 = .ok (.ldc 144, 2) := by decide +kernel
theorem dX4_carryOut_17 : decode cX4_carryOut 17 = .ok (.invokespecial 70, 3) := by decide +kernel
theorem dX4_carryOut_20 : decode cX4_carryOut 20 = .ok (.athrow, 1) := by decide +kernel
theorem dX4_carryOut_21 : decode cX4_carryOut 21 = .ok (.iload_n 1, 1) := by decide +kernel
theorem dX4_carryOut_22 : decode cX4_carryOut 22 = .ok (.aload_n 0, 1) := by decide +kernel
theorem dX4_carryOut_23 : decode cX4_carryOut 23 = .ok (.getfield 32, 3) := by decide +kernel
theorem dX4_carryOut_26 : decode cX4_carryOut 26 = .ok (.invokevirtual 84, 3) := by decide +kernel
theorem dX4_carryOut_29 : decode cX4_carryOut 29 = .ok (.invokestatic 146, 3) := by decide +kernel
theorem dX4_carryOut_32 : decode cX4_carryOut 32 = .ok (.istore_n 2, 1) := by decide +kernel
theorem dX4_carryOut_33 : decode cX4_carryOut 33 = .ok (.aload_n 0, 1) := by decide +kernel
theorem dX4_carryOut_34 : decode cX4_carryOut 34 = .ok (.getfield 28, 3) := by decide +kernel
theorem dX4_carryOut_37 : decode cX4_carryOut 37 = .ok (.invokevirtual 84, 3) := by decide +kernel
theorem dX4_carryOut_40 : decode cX4_carryOut 40 = .ok (.iload_n 2, 1) := by decide +kernel
theorem dX4_carryOut_41 : decode cX4_carryOut 41 = .ok (.iadd, 1) := by decide +kernel
theorem dX4_carryOut_42 : decode cX4_carryOut 42 = .ok (.sipush 200, 3) := by decide +kernel
theorem dX4_carryOut_45 : decode cX4_carryOut 45 = .ok (.if_icmp .le 13, 3) := by decide +kernel
theorem dX4_carryOut_48 : decode cX4_carryOut 48 = .ok (.new 52, 3) := by decide +kernel
theorem dX4_carryOut_51 : decode cX4_carryOut 51 = .ok (.dup, 1) := by decide +kernel
theorem dX4_carryOut_52 : decode cX4_carryOut 52 = .ok (.ldc 151, 2) := by decide +kernel
theorem dX4_carryOut_54 : decode cX4_carryOut 54 = .ok (.invokespecial 56, 3) := by decide +kernel
theorem dX4_carryOut_57 : decode cX4_carryOut 57 = .ok (.athrow, 1) := by decide +kernel
theorem dX4_carryOut_58 : decode cX4_carryOut 58 = .ok (.iconst 0, 1) := by decide +kernel
theorem dX4_carryOut_59 : decode cX4_carryOut 59 = .ok (.istore_n 3, 1) := by decide +kernel
theorem dX4_carryOut_60 : decode cX4_carryOut 60 = .ok (.iload_n 3, 1) := by decide +kernel
theorem dX4_carryOut_61 : decode cX4_carryOut 61 = .ok (.iload_n 2, 1) := by decide +kernel
theorem dX4_carryOut_62 : decode cX4_carryOut 62 = .ok (.if_icmp .ge 24, 3) := by decide +kernel
theorem dX4_carryOut_65 : decode cX4_carryOut 65 = .ok (.aload_n 0, 1) := by decide +kernel
theorem dX4_carryOut_66 : decode cX4_carryOut 66 = .ok (.aload_n 0, 1) := by decide +kernel
theorem dX4_carryOut_67 : decode cX4_carryOut 67 = .ok (.getfield 32, 3) := by decide +kernel
theorem dX4_carryOut_70 : decode cX4_carryOut 70 = .ok (.iload_n 3, 1) := by decide +kernel
theorem dX4_carryOut_71 : decode cX4_carryOut 71 = .ok (.invokevirtual 141, 3) := by decide +kernel
theorem dX4_carryOut_74 : decode cX4_carryOut 74 = .ok (.invokevirtual 93, 3) := by decide +kernel
theorem dX4_carryOut_77 : decode cX4_carryOut 77 = .ok (.ifCond .ne 9, 3) := by decide +kernel
theorem dX4_carryOut_80 : decode cX4_carryOut 80 = .ok (.iinc 3 1, 3) := by decide +kernel
theorem dX4_carryOut_83 : decode cX4_carryOut 83 = .ok (.goto (-23), 3) := by decide +kernel
theorem dX4_carryOut_86 : decode cX4_carryOut 86 = .ok (.aload_n 0, 1) := by decide +kernel
theorem dX4_carryOut_87 : decode cX4_carryOut 87 = .ok (.getfield 32, 3) := by decide +kernel
theorem dX4_carryOut_90 : decode cX4_carryOut 90 = .ok (.iload_n 3, 1) := by decide +kernel
theorem dX4_carryOut_91 : decode cX4_carryOut 91 = .ok (.invokevirtual 134, 3) := by decide +kernel
theorem dX4_carryOut_94 : decode cX4_carryOut 94 = .ok (.iload_n 3, 1) := by decide +kernel
theorem dX4_carryOut_95 : decode cX4_carryOut 95 = .ok (.ireturn, 1) := by decide +kernel
set_option maxRecDepth 20000 in
theorem ggX4_writeBack_X0_size : GoodIn wsX4_writeBack wsX0_size := goodIn_r _ [11, 12, 46, 47] (by decide +kernel) (by decide +kernel)
set_option maxRecDepth 20000 in
theorem gX4_writeBack_X0_size : GoodIn wsX4_writeBack (wsV RX4 84 RX0 yX0_size wsX0_size) := goodIn_app (goodIn_of _ (by decide +kernel)) ggX4_writeBack_X0_size
set_option maxRecDepth 20000 in
theorem ggX4_writeBack_X0_dropFirst : GoodIn wsX4_writeBack wsX0_dropFirst := goodIn_r _ [16, 12, 17, 46, 47] (by decide +kernel) (by decide +kernel)
set_option maxRecDepth 20000 in
theorem gX4_writeBack_X0_dropFirst : GoodIn wsX4_writeBack (wsV RX4 134 RX0 yX0_dropFirst wsX0_dropFirst) := goodIn_app (goodIn_of _ (by decide +kernel)) ggX4_writeBack_X0_dropFirst
set_option maxRecDepth 20000 in
theorem ggX4_writeBack_X0_latest : GoodIn wsX4_writeBack wsX0_latest := goodIn_r _ [21, 17, 12, 46, 47] (by decide +kernel) (by decide +kernel)
set_option maxRecDepth 20000 in
theorem gX4_writeBack_X0_latest : GoodIn wsX4_writeBack (wsV RX4 103 RX0 yX0_latest wsX0_latest) := goodIn_app (goodIn_of _ (by decide +kernel)) ggX4_writeBack_X0_latest
set_option maxRecDepth 20000 in
theorem ggX4_writeBack_X4_oppositeOf : GoodIn wsX4_writeBack wsX4_oppositeOf := goodIn_r _ [25, 26, 27, 24, 28, 29, 30, 31, 32, 33, 34] (by decide +kernel) (by decide +kernel)
set_option maxRecDepth 20000 in
theorem gX4_writeBack_X4_oppositeOf : GoodIn wsX4_writeBack (va_wsS RX4 106 yX4_oppositeOf wsX4_oppositeOf) := goodIn_app (goodIn_of _ (by decide +kernel)) ggX4_writeBack_X4_oppositeOf
set_option maxRecDepth 20000 in
theorem ggX4_writeBack_X0_append : GoodIn wsX4_writeBack wsX0_append := goodIn_r _ [38, 17, 12, 46, 47] (by decide +kernel) (by decide +kernel)
set_option maxRecDepth 20000 in
theorem gX4_writeBack_X0_append : GoodIn wsX4_writeBack (wsV RX4 131 RX0 yX0_append wsX0_append) := goodIn_app (goodIn_of _ (by decide +kernel)) ggX4_writeBack_X0_append
theorem dX4_writeBack_0 : decode cX4_writeBack 0 = .ok (.aload_n 0, 1) := by decide +kernel
theorem dX4_writeBack_1 : decode cX4_writeBack 1 = .ok (.getfield 28, 3) := by decide +kernel
theorem dX4_writeBack_4 : decode cX4_writeBack 4 = .ok (.invokevirtual 84, 3) := by decide +kernel
theorem dX4_writeBack_7 : decode cX4_writeBack 7 = .ok (.bipush 30, 2) := by decide +kernel
theorem dX4_writeBack_9 : decode cX4_writeBack 9 = .ok (.invokestatic 146, 3) := by decide +kernel
theorem dX4_writeBack_12 : decode cX4_writeBack 12 = .ok (.istore_n 1, 1) := by decide +kernel
theorem dX4_writeBack_13 : decode cX4_writeBack 13 = .ok (.aload_n 0, 1) := by decide +kernel
theorem dX4_writeBack_14 : decode cX4_writeBack 14 = .ok (.getfield 32, 3) := by decide +kernel
theorem dX4_writeBack_17 : decode cX4_writeBack 17 = .ok (.aload_n 0, 1) := by decide +kernel
theorem dX4_writeBack_18 : decode cX4_writeBack 18 = .ok (.getfield 32, 3) := by decide +kernel
theorem dX4_writeBack_21 : decode cX4_writeBack 21 = .ok (.invokevirtual 84, 3) := by decide +kernel
theorem dX4_writeBack_24 : decode cX4_writeBack 24 = .ok (.invokevirtual 134, 3) := by decide +kernel
theorem dX4_writeBack_27 : decode cX4_writeBack 27 = .ok (.iconst 0, 1) := by decide +kernel
theorem dX4_writeBack_28 : decode cX4_writeBack 28 = .ok (.istore_n 2, 1) := by decide +kernel
theorem dX4_writeBack_29 : decode cX4_writeBack 29 = .ok (.iload_n 2, 1) := by decide +kernel
theorem dX4_writeBack_30 : decode cX4_writeBack 30 = .ok (.iload_n 1, 1) := by decide +kernel
theorem dX4_writeBack_31 : decode cX4_writeBack 31 = .ok (.if_icmp .ge 27, 3) := by decide +kernel
theorem dX4_writeBack_34 : decode cX4_writeBack 34 = .ok (.aload_n 0, 1) := by decide +kernel
theorem dX4_writeBack_35 : decode cX4_writeBack 35 = .ok (.getfield 32, 3) := by decide +kernel
theorem dX4_writeBack_38 : decode cX4_writeBack 38 = .ok (.aload_n 0, 1) := by decide +kernel
theorem dX4_writeBack_39 : decode cX4_writeBack 39 = .ok (.getfield 28, 3) := by decide +kernel
theorem dX4_writeBack_42 : decode cX4_writeBack 42 = .ok (.iload_n 2, 1) := by decide +kernel
theorem dX4_writeBack_43 : decode cX4_writeBack 43 = .ok (.invokevirtual 103, 3) := by decide +kernel
theorem dX4_writeBack_46 : decode cX4_writeBack 46 = .ok (.invokestatic 106, 3) := by decide +kernel
theorem dX4_writeBack_49 : decode cX4_writeBack 49 = .ok (.invokevirtual 131, 3) := by decide +kernel
theorem dX4_writeBack_52 : decode cX4_writeBack 52 = .ok (.iinc 2 1, 3) := by decide +kernel
theorem dX4_writeBack_55 : decode cX4_writeBack 55 = .ok (.goto (-26), 3) := by decide +kernel
theorem dX4_writeBack_58 : decode cX4_writeBack 58 = .ok (.iload_n 1, 1) := by decide +kernel
theorem dX4_writeBack_59 : decode cX4_writeBack 59 = .ok (.ireturn, 1) := by decide +kernel
set_option maxRecDepth 20000 in
theorem ggX4_permit_X1_allNodes : GoodIn wsX4_permit wsX1_allNodes := goodIn_r _ [11, 12, 59, 60, 61, 62, 63, 64] (by decide +kernel) (by decide +kernel)
set_option maxRecDepth 20000 in
theorem gX4_permit_X1_allNodes : GoodIn wsX4_permit (wsV RX4 153 RX1 yX1_allNodes wsX1_allNodes) := goodIn_app (goodIn_of _ (by decide +kernel)) ggX4_permit_X1_allNodes
set_option maxRecDepth 20000 in
theorem ggX4_permit_X4_canBeHeld : GoodIn wsX4_permit wsX4_canBeHeld := goodIn_r _ [17, 18, 6, 19, 20, 21, 16, 22, 5, 23, 24, 25, 10, 26, 27, 28, 29, 30, 12, 31, 32, 33, 34, 35, 36, 37, 38, 39, 40, 41, 42, 43, 52, 53, 54, 55, 56, 57, 58, 65, 66, 67, 59, 60, 61, 62, 63, 64, 68, 69] (by decide +kernel) (by decide +kernel)
set_option maxRecDepth 20000 in
theorem gX4_permit_X4_canBeHeld : GoodIn wsX4_permit (wsV RX4 158 RX4 yX4_canBeHeld wsX4_canBeHeld) := goodIn_app (goodIn_of _ (by decide +kernel)) ggX4_permit_X4_canBeHeld
set_option maxRecDepth 20000 in
theorem ggX4_permit_X2_given : GoodIn wsX4_permit wsX2_given := goodIn_r _ [47, 42, 68, 69] (by decide +kernel) (by decide +kernel)
set_option maxRecDepth 20000 in
theorem gX4_permit_X2_given : GoodIn wsX4_permit (wsV RX4 164 RX2 yX2_given wsX2_given) := goodIn_app (goodIn_of _ (by decide +kernel)) ggX4_permit_X2_given
set_option maxRecDepth 20000 in
theorem ggX4_permit_X2_give : GoodIn wsX4_permit wsX2_give := goodIn_r _ [51, 43, 42, 68, 69] (by decide +kernel) (by decide +kernel)
set_option maxRecDepth 20000 in
theorem gX4_permit_X2_give : GoodIn wsX4_permit (wsV RX4 169 RX2 yX2_give wsX2_give) := goodIn_app (goodIn_of _ (by decide +kernel)) ggX4_permit_X2_give
theorem dX4_permit_0 : decode cX4_permit 0 = .ok (.iload_n 1, 1) := by decide +kernel
theorem dX4_permit_1 : decode cX4_permit 1 = .ok (.ifCond .eq 17, 3) := by decide +kernel
theorem dX4_permit_4 : decode cX4_permit 4 = .ok (.iload_n 1, 1) := by decide +kernel
theorem dX4_permit_5 : decode cX4_permit 5 = .ok (.aload_n 0, 1) := by decide +kernel
theorem dX4_permit_6 : decode cX4_permit 6 = .ok (.getfield 10, 3) := by decide +kernel
theorem dX4_permit_9 : decode cX4_permit 9 = .ok (.invokevirtual 153, 3) := by decide +kernel
theorem dX4_permit_12 : decode cX4_permit 12 = .ok (.iconst (-1), 1) := by decide +kernel
theorem dX4_permit_13 : decode cX4_permit 13 = .ok (.ixor, 1) := by decide +kernel
theorem dX4_permit_14 : decode cX4_permit 14 = .ok (.iand, 1) := by decide +kernel
theorem dX4_permit_15 : decode cX4_permit 15 = .ok (.ifCond .eq 13, 3) := by decide +kernel
theorem dX4_permit_18 : decode cX4_permit 18 = .ok (.new 66, 3) := by decide +kernel
theorem dX4_permit_21 : decode cX4_permit 21 = .ok (.dup, 1) := by decide +kernel
theorem dX4_permit_22 : decode cX4_permit 22 = .ok (.ldc 156, 2) := by decide +kernel
theorem dX4_permit_24 : decode cX4_permit 24 = .ok (.invokespecial 70, 3) := by decide +kernel
theorem dX4_permit_27 : decode cX4_permit 27 = .ok (.athrow, 1) := by decide +kernel
theorem dX4_permit_28 : decode cX4_permit 28 = .ok (.aload_n 0, 1) := by decide +kernel
theorem dX4_permit_29 : decode cX4_permit 29 = .ok (.iload_n 1, 1) := by decide +kernel
theorem dX4_permit_30 : decode cX4_permit 30 = .ok (.invokevirtual 158, 3) := by decide +kernel
theorem dX4_permit_33 : decode cX4_permit 33 = .ok (.ifCond .ne 13, 3) := by decide +kernel
theorem dX4_permit_36 : decode cX4_permit 36 = .ok (.new 52, 3) := by decide +kernel
theorem dX4_permit_39 : decode cX4_permit 39 = .ok (.dup, 1) := by decide +kernel
theorem dX4_permit_40 : decode cX4_permit 40 = .ok (.ldc 162, 2) := by decide +kernel
theorem dX4_permit_42 : decode cX4_permit 42 = .ok (.invokespecial 56, 3) := by decide +kernel
theorem dX4_permit_45 : decode cX4_permit 45 = .ok (.athrow, 1) := by decide +kernel
theorem dX4_permit_46 : decode cX4_permit 46 = .ok (.aload_n 0, 1) := by decide +kernel
theorem dX4_permit_47 : decode cX4_permit 47 = .ok (.getfield 38, 3) := by decide +kernel
theorem dX4_permit_50 : decode cX4_permit 50 = .ok (.invokevirtual 164, 3) := by decide +kernel
theorem dX4_permit_53 : decode cX4_permit 53 = .ok (.bipush 10, 2) := by decide +kernel
theorem dX4_permit_55 : decode cX4_permit 55 = .ok (.if_icmp .lt 13, 3) := by decide +kernel
theorem dX4_permit_58 : decode cX4_permit 58 = .ok (.new 52, 3) := by decide +kernel
theorem dX4_permit_61 : decode cX4_permit 61 = .ok (.dup, 1) := by decide +kernel
theorem dX4_permit_62 : decode cX4_permit 62 = .ok (.ldc 167, 2) := by decide +kernel
theorem dX4_permit_64 : decode cX4_permit 64 = .ok (.invokespecial 56, 3) := by decide +kernel
theorem dX4_permit_67 : decode cX4_permit 67 = .ok (.athrow, 1) := by decide +kernel
theorem dX4_permit_68 : decode cX4_permit 68 = .ok (.aload_n 0, 1) := by decide +kernel
theorem dX4_permit_69 : decode cX4_permit 69 = .ok (.getfield 38, 3) := by decide +kernel
theorem dX4_permit_72 : decode cX4_permit 72 = .ok (.iload_n 1, 1) := by decide +kernel
theorem dX4_permit_73 : decode cX4_permit 73 = .ok (.invokevirtual 169, 3) := by decide +kernel
theorem dX4_permit_76 : decode cX4_permit 76 = .ok (.ireturn, 1) := by decide +kernel
set_option maxRecDepth 20000 in
theorem ggX4_handBack_X2_given : GoodIn wsX4_handBack wsX2_given := goodIn_r _ [10, 11, 33, 34] (by decide +kernel) (by decide +kernel)
set_option maxRecDepth 20000 in
theorem gX4_handBack_X2_given : GoodIn wsX4_handBack (wsV RX4 164 RX2 yX2_given wsX2_given) := goodIn_app (goodIn_of _ (by decide +kernel)) ggX4_handBack_X2_given
set_option maxRecDepth 20000 in
theorem ggX4_handBack_X2_isHeld : GoodIn wsX4_handBack wsX2_isHeld := goodIn_r _ [15, 16, 33, 34] (by decide +kernel) (by decide +kernel)
set_option maxRecDepth 20000 in
theorem gX4_handBack_X2_isHeld : GoodIn wsX4_handBack (wsV RX4 174 RX2 yX2_isHeld wsX2_isHeld) := goodIn_app (goodIn_of _ (by decide +kernel)) ggX4_handBack_X2_isHeld
set_option maxRecDepth 20000 in
theorem ggX4_handBack_X2_release : GoodIn wsX4_handBack wsX2_release := goodIn_r _ [20, 16, 33, 34] (by decide +kernel) (by decide +kernel)
set_option maxRecDepth 20000 in
theorem gX4_handBack_X2_release : GoodIn wsX4_handBack (wsV RX4 179 RX2 yX2_release wsX2_release) := goodIn_app (goodIn_of _ (by decide +kernel)) ggX4_handBack_X2_release
set_option maxRecDepth 20000 in
theorem ggX4_handBack_X2_countHeld : GoodIn wsX4_handBack wsX2_countHeld := goodIn_r _ [24, 11, 25, 13, 14, 9, 15, 16, 33, 34] (by decide +kernel) (by decide +kernel)
set_option maxRecDepth 20000 in
theorem gX4_handBack_X2_countHeld : GoodIn wsX4_handBack (wsV RX4 182 RX2 yX2_countHeld wsX2_countHeld) := goodIn_app (goodIn_of _ (by decide +kernel)) ggX4_handBack_X2_countHeld
theorem dX4_handBack_0 : decode cX4_handBack 0 = .ok (.iload_n 1, 1) := by decide +kernel
theorem dX4_handBack_1 : decode cX4_handBack 1 = .ok (.ifCond .lt 14, 3) := by decide +kernel
theorem dX4_handBack_4 : decode cX4_handBack 4 = .ok (.iload_n 1, 1) := by decide +kernel
theorem dX4_handBack_5 : decode cX4_handBack 5 = .ok (.aload_n 0, 1) := by decide +kernel
theorem dX4_handBack_6 : decode cX4_handBack 6 = .ok (.getfield 38, 3) := by decide +kernel
theorem dX4_handBack_9 : decode cX4_handBack 9 = .ok (.invokevirtual 164, 3) := by decide +kernel
theorem dX4_handBack_12 : decode cX4_handBack 12 = .ok (.if_icmp .lt 13, 3) := by decide +kernel
theorem dX4_handBack_15 : decode cX4_handBack 15 = .ok (.new 121, 3) := by decide +kernel
theorem dX4_handBack_18 : decode cX4_handBack 18 = .ok (.dup, 1) := by decide +kernel
theorem dX4_handBack_19 : decode cX4_handBack 19 = .ok (.ldc 172, 2) := by decide +kernel
theorem dX4_handBack_21 : decode cX4_handBack 21 = .ok (.invokespecial 125, 3) := by decide +kernel
theorem dX4_handBack_24 : decode cX4_handBack 24 = .ok (.athrow, 1) := by decide +kernel
theorem dX4_handBack_25 : decode cX4_handBack 25 = .ok (.aload_n 0, 1) := by decide +kernel
theorem dX4_handBack_26 : decode cX4_handBack 26 = .ok (.getfield 38, 3) := by decide +kernel
theorem dX4_handBack_29 : decode cX4_handBack 29 = .ok (.iload_n 1, 1) := by decide +kernel
theorem dX4_handBack_30 : decode cX4_handBack 30 = .ok (.invokevirtual 174, 3) := by decide +kernel
theorem dX4_handBack_33 : decode cX4_handBack 33 = .ok (.ifCond .ne 13, 3) := by decide +kernel
theorem dX4_handBack_36 : decode cX4_handBack 36 = .ok (.new 52, 3) := by decide +kernel
theorem dX4_handBack_39 : decode cX4_handBack 39 = .ok (.dup, 1) := by decide +kernel
theorem dX4_handBack_40 : decode cX4_handBack 40 = .ok (.ldc 177, 2) := by decide +kernel
theorem dX4_handBack_42 : decode cX4_handBack 42 = .ok (.invokespecial 56, 3) := by decide +kernel
theorem dX4_handBack_45 : decode cX4_handBack 45 = .ok (.athrow, 1) := by decide +kernel
theorem dX4_handBack_46 : decode cX4_handBack 46 = .ok (.aload_n 0, 1) := by decide +kernel
theorem dX4_handBack_47 : decode cX4_handBack 47 = .ok (.getfield 38, 3) := by decide +kernel
theorem dX4_handBack_50 : decode cX4_handBack 50 = .ok (.iload_n 1, 1) := by decide +kernel
theorem dX4_handBack_51 : decode cX4_handBack 51 = .ok (.invokevirtual 179, 3) := by decide +kernel
theorem dX4_handBack_54 : decode cX4_handBack 54 = .ok (.aload_n 0, 1) := by decide +kernel
theorem dX4_handBack_55 : decode cX4_handBack 55 = .ok (.getfield 38, 3) := by decide +kernel
theorem dX4_handBack_58 : decode cX4_handBack 58 = .ok (.invokevirtual 182, 3) := by decide +kernel
theorem dX4_handBack_61 : decode cX4_handBack 61 = .ok (.ireturn, 1) := by decide +kernel
set_option maxRecDepth 20000 in
theorem ggX4_held_X2_heldNodes : GoodIn wsX4_held wsX2_heldNodes := goodIn_r _ [6, 7, 8, 16, 17] (by decide +kernel) (by decide +kernel)
set_option maxRecDepth 20000 in
theorem gX4_held_X2_heldNodes : GoodIn wsX4_held (wsV RX4 185 RX2 yX2_heldNodes wsX2_heldNodes) := goodIn_app (goodIn_of _ (by decide +kernel)) ggX4_held_X2_heldNodes
theorem dX4_held_0 : decode cX4_held 0 = .ok (.aload_n 0, 1) := by decide +kernel
theorem dX4_held_1 : decode cX4_held 1 = .ok (.getfield 38, 3) := by decide +kernel
theorem dX4_held_4 : decode cX4_held 4 = .ok (.invokevirtual 185, 3) := by decide +kernel
theorem dX4_held_7 : decode cX4_held 7 = .ok (.ireturn, 1) := by decide +kernel
set_option maxRecDepth 20000 in
theorem ggX4_isClosed_X1_hasSwitch : GoodIn wsX4_isClosed wsX1_hasSwitch := goodIn_r _ [9, 10, 26, 27, 28, 29, 30, 31] (by decide +kernel) (by decide +kernel)
set_option maxRecDepth 20000 in
theorem gX4_isClosed_X1_hasSwitch : GoodIn wsX4_isClosed (wsV RX4 188 RX1 yX1_hasSwitch wsX1_hasSwitch) := goodIn_app (goodIn_of _ (by decide +kernel)) ggX4_isClosed_X1_hasSwitch
set_option maxRecDepth 20000 in
theorem ggX4_isClosed_X3_isOn : GoodIn wsX4_isClosed wsX3_isOn := goodIn_r _ [15, 16, 17, 18, 32, 33, 34] (by decide +kernel) (by decide +kernel)
set_option maxRecDepth 20000 in
theorem gX4_isClosed_X3_isOn : GoodIn wsX4_isClosed (wsV RX4 193 RX3 yX3_isOn wsX3_isOn) := goodIn_app (goodIn_of _ (by decide +kernel)) ggX4_isClosed_X3_isOn
theorem dX4_isClosed_0 : decode cX4_isClosed 0 = .ok (.aload_n 0, 1) := by decide +kernel
theorem dX4_isClosed_1 : decode cX4_isClosed 1 = .ok (.getfield 10, 3) := by decide +kernel
theorem dX4_isClosed_4 : decode cX4_isClosed 4 = .ok (.iload_n 1, 1) := by decide +kernel
theorem dX4_isClosed_5 : decode cX4_isClosed 5 = .ok (.invokevirtual 188, 3) := by decide +kernel
theorem dX4_isClosed_8 : decode cX4_isClosed 8 = .ok (.ifCond .ne 13, 3) := by decide +kernel
theorem dX4_isClosed_11 : decode cX4_isClosed 11 = .ok (.new 121, 3) := by decide +kernel
theorem dX4_isClosed_14 : decode cX4_isClosed 14 = .ok (.dup, 1) := by decide +kernel
theorem dX4_isClosed_15 : decode cX4_isClosed 15 = .ok (.ldc 191, 2) := by decide +kernel
theorem dX4_isClosed_17 : decode cX4_isClosed 17 = .ok (.invokespecial 125, 3) := by decide +kernel
theorem dX4_isClosed_20 : decode cX4_isClosed 20 = .ok (.athrow, 1) := by decide +kernel
theorem dX4_isClosed_21 : decode cX4_isClosed 21 = .ok (.aload_n 0, 1) := by decide +kernel
theorem dX4_isClosed_22 : decode cX4_isClosed 22 = .ok (.getfield 19, 3) := by decide +kernel
theorem dX4_isClosed_25 : decode cX4_isClosed 25 = .ok (.iconst 1, 1) := by decide +kernel
theorem dX4_isClosed_26 : decode cX4_isClosed 26 = .ok (.iload_n 1, 1) := by decide +kernel
theorem dX4_isClosed_27 : decode cX4_isClosed 27 = .ok (.invokevirtual 193, 3) := by decide +kernel
theorem dX4_isClosed_30 : decode cX4_isClosed 30 = .ok (.ireturn, 1) := by decide +kernel
set_option maxRecDepth 20000 in
theorem ggX4_live_X1_liveNodes : GoodIn wsX4_live wsX1_liveNodes := goodIn_r _ [7, 8, 9, 10, 6, 11, 12, 13, 14, 22, 23, 24, 25, 26, 27, 28, 29, 30] (by decide +kernel) (by decide +kernel)
set_option maxRecDepth 20000 in
theorem gX4_live_X1_liveNodes : GoodIn wsX4_live (wsV RX4 197 RX1 yX1_liveNodes wsX1_liveNodes) := goodIn_app (goodIn_of _ (by decide +kernel)) ggX4_live_X1_liveNodes
theorem dX4_live_0 : decode cX4_live 0 = .ok (.aload_n 0, 1) := by decide +kernel
theorem dX4_live_1 : decode cX4_live 1 = .ok (.getfield 10, 3) := by decide +kernel
theorem dX4_live_4 : decode cX4_live 4 = .ok (.aload_n 0, 1) := by decide +kernel
theorem dX4_live_5 : decode cX4_live 5 = .ok (.getfield 19, 3) := by decide +kernel
theorem dX4_live_8 : decode cX4_live 8 = .ok (.invokevirtual 197, 3) := by decide +kernel
theorem dX4_live_11 : decode cX4_live 11 = .ok (.ireturn, 1) := by decide +kernel
set_option maxRecDepth 20000 in
theorem ggX4_loaded_X1_loadedNodes : GoodIn wsX4_loaded wsX1_loadedNodes := goodIn_r _ [7, 8, 9, 10, 11, 6, 12, 13, 14, 15, 23, 24, 25, 26, 27, 28, 29, 30, 31] (by decide +kernel) (by decide +kernel)
set_option maxRecDepth 20000 in
theorem gX4_loaded_X1_loadedNodes : GoodIn wsX4_loaded (wsV RX4 201 RX1 yX1_loadedNodes wsX1_loadedNodes) := goodIn_app (goodIn_of _ (by decide +kernel)) ggX4_loaded_X1_loadedNodes
theorem dX4_loaded_0 : decode cX4_loaded 0 = .ok (.aload_n 0, 1) := by decide +kernel
theorem dX4_loaded_1 : decode cX4_loaded 1 = .ok (.getfield 10, 3) := by decide +kernel
theorem dX4_loaded_4 : decode cX4_loaded 4 = .ok (.aload_n 0, 1) := by decide +kernel
theorem dX4_loaded_5 : decode cX4_loaded 5 = .ok (.getfield 19, 3) := by decide +kernel
theorem dX4_loaded_8 : decode cX4_loaded 8 = .ok (.invokevirtual 201, 3) := by decide +kernel
theorem dX4_loaded_11 : decode cX4_loaded 11 = .ok (.ireturn, 1) := by decide +kernel
set_option maxRecDepth 20000 in
theorem ggX4_earthed_X1_earthedNodes : GoodIn wsX4_earthed wsX1_earthedNodes := goodIn_r _ [7, 8, 9, 10, 6, 11, 12, 13, 14, 22, 23, 24, 25, 26, 27, 28, 29, 30] (by decide +kernel) (by decide +kernel)
set_option maxRecDepth 20000 in
theorem gX4_earthed_X1_earthedNodes : GoodIn wsX4_earthed (wsV RX4 204 RX1 yX1_earthedNodes wsX1_earthedNodes) := goodIn_app (goodIn_of _ (by decide +kernel)) ggX4_earthed_X1_earthedNodes
theorem dX4_earthed_0 : decode cX4_earthed 0 = .ok (.aload_n 0, 1) := by decide +kernel
theorem dX4_earthed_1 : decode cX4_earthed 1 = .ok (.getfield 10, 3) := by decide +kernel
theorem dX4_earthed_4 : decode cX4_earthed 4 = .ok (.aload_n 0, 1) := by decide +kernel
theorem dX4_earthed_5 : decode cX4_earthed 5 = .ok (.getfield 19, 3) := by decide +kernel
theorem dX4_earthed_8 : decode cX4_earthed 8 = .ok (.invokevirtual 204, 3) := by decide +kernel
theorem dX4_earthed_11 : decode cX4_earthed 11 = .ok (.ireturn, 1) := by decide +kernel
set_option maxRecDepth 20000 in
theorem ggX4_part_X4_requireNode : GoodIn wsX4_part wsX4_requireNode := goodIn_ca (goodIn_r _ [7, 8, 9, 1, 10, 11, 12, 13, 14, 15, 22, 23, 24, 25, 26, 27, 28, 29, 30, 31, 32, 33, 34] (by decide +kernel) (by decide +kernel)) (goodIn_sub (fun _ h => List.mem_cons_of_mem _ (List.mem_append_right _ h)) (by decide +kernel))
set_option maxRecDepth 20000 in
theorem gX4_part_X4_requireNode : GoodIn wsX4_part (wsV RX4 63 RX4 yX4_requireNode wsX4_requireNode) := goodIn_app (goodIn_of _ (by decide +kernel)) ggX4_part_X4_requireNode
set_option maxRecDepth 20000 in
theorem ggX4_part_X1_connectedWith : GoodIn wsX4_part wsX1_connectedWith := goodIn_r _ [19, 15, 20, 21, 29, 30, 31, 32, 33, 34, 35, 36, 37] (by decide +kernel) (by decide +kernel)
set_option maxRecDepth 20000 in
theorem gX4_part_X1_connectedWith : GoodIn wsX4_part (wsV RX4 207 RX1 yX1_connectedWith wsX1_connectedWith) := goodIn_app (goodIn_of _ (by decide +kernel)) ggX4_part_X1_connectedWith
theorem dX4_part_0 : decode cX4_part 0 = .ok (.aload_n 0, 1) := by decide +kernel
theorem dX4_part_1 : decode cX4_part 1 = .ok (.iload_n 1, 1) := by decide +kernel
theorem dX4_part_2 : decode cX4_part 2 = .ok (.invokevirtual 63, 3) := by decide +kernel
theorem dX4_part_5 : decode cX4_part 5 = .ok (.aload_n 0, 1) := by decide +kernel
theorem dX4_part_6 : decode cX4_part 6 = .ok (.getfield 10, 3) := by decide +kernel
theorem dX4_part_9 : decode cX4_part 9 = .ok (.iconst 1, 1) := by decide +kernel
theorem dX4_part_10 : decode cX4_part 10 = .ok (.iload_n 1, 1) := by decide +kernel
theorem dX4_part_11 : decode cX4_part 11 = .ok (.ishl, 1) := by decide +kernel
theorem dX4_part_12 : decode cX4_part 12 = .ok (.aload_n 0, 1) := by decide +kernel
theorem dX4_part_13 : decode cX4_part 13 = .ok (.getfield 19, 3) := by decide +kernel
theorem dX4_part_16 : decode cX4_part 16 = .ok (.invokevirtual 207, 3) := by decide +kernel
theorem dX4_part_19 : decode cX4_part 19 = .ok (.ireturn, 1) := by decide +kernel
set_option maxRecDepth 20000 in
theorem ggX4_parts_X1_countParts : GoodIn wsX4_parts wsX1_countParts := goodIn_r _ [7, 8, 9, 10, 11, 6, 12, 13, 14, 15, 16, 17, 18, 26, 27, 28, 29, 30, 31, 32, 33, 34] (by decide +kernel) (by decide +kernel)
set_option maxRecDepth 20000 in
theorem gX4_parts_X1_countParts : GoodIn wsX4_parts (wsV RX4 211 RX1 yX1_countParts wsX1_countParts) := goodIn_app (goodIn_of _ (by decide +kernel)) ggX4_parts_X1_countParts
theorem dX4_parts_0 : decode cX4_parts 0 = .ok (.aload_n 0, 1) := by decide +kernel
theorem dX4_parts_1 : decode cX4_parts 1 = .ok (.getfield 10, 3) := by decide +kernel
theorem dX4_parts_4 : decode cX4_parts 4 = .ok (.aload_n 0, 1) := by decide +kernel
theorem dX4_parts_5 : decode cX4_parts 5 = .ok (.getfield 19, 3) := by decide +kernel
theorem dX4_parts_8 : decode cX4_parts 8 = .ok (.invokevirtual 211, 3) := by decide +kernel
theorem dX4_parts_11 : decode cX4_parts 11 = .ok (.ireturn, 1) := by decide +kernel
set_option maxRecDepth 20000 in
theorem ggX4_toLive_X4_requireNode : GoodIn wsX4_toLive wsX4_requireNode := goodIn_ca (goodIn_r _ [9, 10, 11, 3, 12, 13, 14, 15, 16, 17, 32, 33, 34, 35, 36, 37, 38, 42, 43, 44, 45, 46, 47] (by decide +kernel) (by decide +kernel)) (goodIn_sub (fun _ h => List.mem_cons_of_mem _ (List.mem_append_right _ h)) (by decide +kernel))
set_option maxRecDepth 20000 in
theorem gX4_toLive_X4_requireNode : GoodIn wsX4_toLive (wsV RX4 63 RX4 yX4_requireNode wsX4_requireNode) := goodIn_app (goodIn_of _ (by decide +kernel)) ggX4_toLive_X4_requireNode
set_option maxRecDepth 20000 in
theorem ggX4_toLive_X1_connectedWith : GoodIn wsX4_toLive wsX1_connectedWith := goodIn_r _ [21, 17, 22, 23, 42, 43, 44, 45, 46, 47, 39, 40, 41] (by decide +kernel) (by decide +kernel)
set_option maxRecDepth 20000 in
theorem gX4_toLive_X1_connectedWith : GoodIn wsX4_toLive (wsV RX4 207 RX1 yX1_connectedWith wsX1_connectedWith) := goodIn_app (goodIn_of _ (by decide +kernel)) ggX4_toLive_X1_connectedWith
set_option maxRecDepth 20000 in
theorem ggX4_toLive_X1_nodeCount : GoodIn wsX4_toLive wsX1_nodeCount := goodIn_r _ [27, 17, 42, 43, 44, 45, 46, 47] (by decide +kernel) (by decide +kernel)
set_option maxRecDepth 20000 in
theorem gX4_toLive_X1_nodeCount : GoodIn wsX4_toLive (wsV RX4 48 RX1 yX1_nodeCount wsX1_nodeCount) := goodIn_app (goodIn_of _ (by decide +kernel)) ggX4_toLive_X1_nodeCount
set_option maxRecDepth 20000 in
theorem ggX4_toLive_X1_withNeighbours : GoodIn wsX4_toLive wsX1_withNeighbours := goodIn_r _ [31, 22, 23, 42, 43, 44, 45, 46, 47] (by decide +kernel) (by decide +kernel)
set_option maxRecDepth 20000 in
theorem gX4_toLive_X1_withNeighbours : GoodIn wsX4_toLive (wsV RX4 218 RX1 yX1_withNeighbours wsX1_withNeighbours) := goodIn_app (goodIn_of _ (by decide +kernel)) ggX4_toLive_X1_withNeighbours
theorem dX4_toLive_0 : decode cX4_toLive 0 = .ok (.aload_n 0, 1) := by decide +kernel
theorem dX4_toLive_1 : decode cX4_toLive 1 = .ok (.iload_n 1, 1) := by decide +kernel
theorem dX4_toLive_2 : decode cX4_toLive 2 = .ok (.invokevirtual 63, 3) := by decide +kernel
theorem dX4_toLive_5 : decode cX4_toLive 5 = .ok (.aload_n 0, 1) := by decide +kernel
theorem dX4_toLive_6 : decode cX4_toLive 6 = .ok (.getfield 10, 3) := by decide +kernel
theorem dX4_toLive_9 : decode cX4_toLive 9 = .ok (.iconst 1, 1) := by decide +kernel
theorem dX4_toLive_10 : decode cX4_toLive 10 = .ok (.iload_n 1, 1) := by decide +kernel
theorem dX4_toLive_11 : decode cX4_toLive 11 = .ok (.ishl, 1) := by decide +kernel
theorem dX4_toLive_12 : decode cX4_toLive 12 = .ok (.aload_n 0, 1) := by decide +kernel
theorem dX4_toLive_13 : decode cX4_toLive 13 = .ok (.getfield 19, 3) := by decide +kernel
theorem dX4_toLive_16 : decode cX4_toLive 16 = .ok (.invokevirtual 207, 3) := by decide +kernel
theorem dX4_toLive_19 : decode cX4_toLive 19 = .ok (.istore_n 2, 1) := by decide +kernel
theorem dX4_toLive_20 : decode cX4_toLive 20 = .ok (.iconst 0, 1) := by decide +kernel
theorem dX4_toLive_21 : decode cX4_toLive 21 = .ok (.istore_n 3, 1) := by decide +kernel
theorem dX4_toLive_22 : decode cX4_toLive 22 = .ok (.iload_n 3, 1) := by decide +kernel
theorem dX4_toLive_23 : decode cX4_toLive 23 = .ok (.aload_n 0, 1) := by decide +kernel
theorem dX4_toLive_24 : decode cX4_toLive 24 = .ok (.getfield 10, 3) := by decide +kernel
theorem dX4_toLive_27 : decode cX4_toLive 27 = .ok (.invokevirtual 48, 3) := by decide +kernel
theorem dX4_toLive_30 : decode cX4_toLive 30 = .ok (.if_icmp .ge 43, 3) := by decide +kernel
theorem dX4_toLive_33 : decode cX4_toLive 33 = .ok (.iload_n 2, 1) := by decide +kernel
theorem dX4_toLive_34 : decode cX4_toLive 34 = .ok (.aload_n 0, 1) := by decide +kernel
theorem dX4_toLive_35 : decode cX4_toLive 35 = .ok (.getfield 19, 3) := by decide +kernel
theorem dX4_toLive_38 : decode cX4_toLive 38 = .ok (.getfield 214, 3) := by decide +kernel
theorem dX4_toLive_41 : decode cX4_toLive 41 = .ok (.iand, 1) := by decide +kernel
theorem dX4_toLive_42 : decode cX4_toLive 42 = .ok (.ifCond .eq 5, 3) := by decide +kernel
theorem dX4_toLive_45 : decode cX4_toLive 45 = .ok (.iload_n 3, 1) := by decide +kernel
theorem dX4_toLive_46 : decode cX4_toLive 46 = .ok (.ireturn, 1) := by decide +kernel
theorem dX4_toLive_47 : decode cX4_toLive 47 = .ok (.aload_n 0, 1) := by decide +kernel
theorem dX4_toLive_48 : decode cX4_toLive 48 = .ok (.getfield 10, 3) := by decide +kernel
theorem dX4_toLive_51 : decode cX4_toLive 51 = .ok (.aload_n 0, 1) := by decide +kernel
theorem dX4_toLive_52 : decode cX4_toLive 52 = .ok (.getfield 10, 3) := by decide +kernel
theorem dX4_toLive_55 : decode cX4_toLive 55 = .ok (.iload_n 2, 1) := by decide +kernel
theorem dX4_toLive_56 : decode cX4_toLive 56 = .ok (.invokevirtual 218, 3) := by decide +kernel
theorem dX4_toLive_59 : decode cX4_toLive 59 = .ok (.aload_n 0, 1) := by decide +kernel
theorem dX4_toLive_60 : decode cX4_toLive 60 = .ok (.getfield 19, 3) := by decide +kernel
theorem dX4_toLive_63 : decode cX4_toLive 63 = .ok (.invokevirtual 207, 3) := by decide +kernel
theorem dX4_toLive_66 : decode cX4_toLive 66 = .ok (.istore_n 2, 1) := by decide +kernel
theorem dX4_toLive_67 : decode cX4_toLive 67 = .ok (.iinc 3 1, 3) := by decide +kernel
theorem dX4_toLive_70 : decode cX4_toLive 70 = .ok (.goto (-48), 3) := by decide +kernel
theorem dX4_toLive_73 : decode cX4_toLive 73 = .ok (.new 221, 3) := by decide +kernel
theorem dX4_toLive_76 : decode cX4_toLive 76 = .ok (.dup, 1) := by decide +kernel
theorem dX4_toLive_77 : decode cX4_toLive 77 = .ok (.ldc 223, 2) := by decide +kernel
theorem dX4_toLive_79 : decode cX4_toLive 79 = .ok (.invokespecial 225, 3) := by decide +kernel
theorem dX4_toLive_82 : decode cX4_toLive 82 = .ok (.athrow, 1) := by decide +kernel
set_option maxRecDepth 20000 in
theorem ggX4_requireNode_X1_hasNode : GoodIn wsX4_requireNode wsX1_hasNode := goodIn_r _ [8, 9, 17, 18, 19, 20, 21, 22] (by decide +kernel) (by decide +kernel)
set_option maxRecDepth 20000 in
theorem gX4_requireNode_X1_hasNode : GoodIn wsX4_requireNode (wsV RX4 226 RX1 yX1_hasNode wsX1_hasNode) := goodIn_app (goodIn_of _ (by decide +kernel)) ggX4_requireNode_X1_hasNode
theorem dX4_requireNode_0 : decode cX4_requireNode 0 = .ok (.aload_n 0, 1) := by decide +kernel
theorem dX4_requireNode_1 : decode cX4_requireNode 1 = .ok (.getfield 10, 3) := by decide +kernel
theorem dX4_requireNode_4 : decode cX4_requireNode 4 = .ok (.iload_n 1, 1) := by decide +kernel
theorem dX4_requireNode_5 : decode cX4_requireNode 5 = .ok (.invokevirtual 226, 3) := by decide +kernel
theorem dX4_requireNode_8 : decode cX4_requireNode 8 = .ok (.ifCond .ne 13, 3) := by decide +kernel
theorem dX4_requireNode_11 : decode cX4_requireNode 11 = .ok (.new 121, 3) := by decide +kernel
theorem dX4_requireNode_14 : decode cX4_requireNode 14 = .ok (.dup, 1) := by decide +kernel
theorem dX4_requireNode_15 : decode cX4_requireNode 15 = .ok (.ldc 229, 2) := by decide +kernel
theorem dX4_requireNode_17 : decode cX4_requireNode 17 = .ok (.invokespecial 125, 3) := by decide +kernel
theorem dX4_requireNode_20 : decode cX4_requireNode 20 = .ok (.athrow, 1) := by decide +kernel
theorem dX4_requireNode_21 : decode cX4_requireNode 21 = .ok (.return_, 1) := by decide +kernel
set_option maxRecDepth 20000 in
theorem ggX4_requireAct_X4_isOfSwitch : GoodIn wsX4_requireAct wsX4_isOfSwitch := goodIn_r _ [9] (by decide +kernel) (by decide +kernel)
set_option maxRecDepth 20000 in
theorem gX4_requireAct_X4_isOfSwitch : GoodIn wsX4_requireAct (va_wsS RX4 233 yX4_isOfSwitch wsX4_isOfSwitch) := goodIn_app (goodIn_of _ (by decide +kernel)) ggX4_requireAct_X4_isOfSwitch
set_option maxRecDepth 20000 in
theorem ggX4_requireAct_X1_hasSwitch : GoodIn wsX4_requireAct wsX1_hasSwitch := goodIn_r _ [14, 15, 28, 29, 30, 31, 32, 33] (by decide +kernel) (by decide +kernel)
set_option maxRecDepth 20000 in
theorem gX4_requireAct_X1_hasSwitch : GoodIn wsX4_requireAct (wsV RX4 188 RX1 yX1_hasSwitch wsX1_hasSwitch) := goodIn_app (goodIn_of _ (by decide +kernel)) ggX4_requireAct_X1_hasSwitch
set_option maxRecDepth 20000 in
theorem ggX4_requireAct_X1_hasNode : GoodIn wsX4_requireAct wsX1_hasNode := goodIn_r _ [19, 20, 28, 29, 30, 31, 32, 33] (by decide +kernel) (by decide +kernel)
set_option maxRecDepth 20000 in
theorem gX4_requireAct_X1_hasNode : GoodIn wsX4_requireAct (wsV RX4 226 RX1 yX1_hasNode wsX1_hasNode) := goodIn_app (goodIn_of _ (by decide +kernel)) ggX4_requireAct_X1_hasNode
theorem dX4_requireAct_0 : decode cX4_requireAct 0 = .ok (.iload_n 1, 1) := by decide +kernel
theorem dX4_requireAct_1 : decode cX4_requireAct 1 = .ok (.ifCond .lt 8, 3) := by decide +kernel
theorem dX4_requireAct_4 : decode cX4_requireAct 4 = .ok (.iload_n 1, 1) := by decide +kernel
theorem dX4_requireAct_5 : decode cX4_requireAct 5 = .ok (.iconst 5, 1) := by decide +kernel
theorem dX4_requireAct_6 : decode cX4_requireAct 6 = .ok (.if_icmp .le 13, 3) := by decide +kernel
theorem dX4_requireAct_9 : decode cX4_requireAct 9 = .ok (.new 66, 3) := by decide +kernel
theorem dX4_requireAct_12 : decode cX4_requireAct 12 = .ok (.dup, 1) := by decide +kernel
theorem dX4_requireAct_13 : decode cX4_requireAct 13 = .ok (.ldc 231, 2) := by decide +kernel
theorem dX4_requireAct_15 : decode cX4_requireAct 15 = .ok (.invokespecial 70, 3) := by decide +kernel
theorem dX4_requireAct_18 : decode cX4_requireAct 18 = .ok (.athrow, 1) := by decide +kernel
theorem dX4_requireAct_19 : decode cX4_requireAct 19 = .ok (.iload_n 1, 1) := by decide +kernel
theorem dX4_requireAct_20 : decode cX4_requireAct 20 = .ok (.invokestatic 233, 3) := by decide +kernel
theorem dX4_requireAct_23 : decode cX4_requireAct 23 = .ok (.ifCond .eq 17, 3) := by decide +kernel
theorem dX4_requireAct_26 : decode cX4_requireAct 26 = .ok (.aload_n 0, 1) := by decide +kernel
theorem dX4_requireAct_27 : decode cX4_requireAct 27 = .ok (.getfield 10, 3) := by decide +kernel
theorem dX4_requireAct_30 : decode cX4_requireAct 30 = .ok (.iload_n 2, 1) := by decide +kernel
theorem dX4_requireAct_31 : decode cX4_requireAct 31 = .ok (.invokevirtual 188, 3) := by decide +kernel
theorem dX4_requireAct_34 : decode cX4_requireAct 34 = .ok (.ifCond .ne 27, 3) := by decide +kernel
theorem dX4_requireAct_37 : decode cX4_requireAct 37 = .ok (.goto 14, 3) := by decide +kernel
theorem dX4_requireAct_40 : decode cX4_requireAct 40 = .ok (.aload_n 0, 1) := by decide +kernel
theorem dX4_requireAct_41 : decode cX4_requireAct 41 = .ok (.getfield 10, 3) := by decide +kernel
theorem dX4_requireAct_44 : decode cX4_requireAct 44 = .ok (.iload_n 2, 1) := by decide +kernel
theorem dX4_requireAct_45 : decode cX4_requireAct 45 = .ok (.invokevirtual 226, 3) := by decide +kernel
theorem dX4_requireAct_48 : decode cX4_requireAct 48 = .ok (.ifCond .ne 13, 3) := by decide +kernel
theorem dX4_requireAct_51 : decode cX4_requireAct 51 = .ok (.new 121, 3) := by decide +kernel
theorem dX4_requireAct_54 : decode cX4_requireAct 54 = .ok (.dup, 1) := by decide +kernel
theorem dX4_requireAct_55 : decode cX4_requireAct 55 = .ok (.ldc 236, 2) := by decide +kernel
theorem dX4_requireAct_57 : decode cX4_requireAct 57 = .ok (.invokespecial 125, 3) := by decide +kernel
theorem dX4_requireAct_60 : decode cX4_requireAct 60 = .ok (.athrow, 1) := by decide +kernel
theorem dX4_requireAct_61 : decode cX4_requireAct 61 = .ok (.return_, 1) := by decide +kernel
set_option maxRecDepth 20000 in
theorem ggX4_reasonIn_X4_isAlreadySo : GoodIn wsX4_reasonIn wsX4_isAlreadySo := goodIn_r _ [7, 8, 9, 10, 11, 12, 13, 14, 15, 16, 17, 18, 19, 20, 21, 22, 23, 24, 6, 25, 101, 102, 103, 104, 105, 106, 107, 108, 109, 110, 111, 112, 113, 114, 115, 116] (by decide +kernel) (by decide +kernel)
set_option maxRecDepth 20000 in
theorem gX4_reasonIn_X4_isAlreadySo : GoodIn wsX4_reasonIn (wsV RX4 238 RX4 yX4_isAlreadySo wsX4_isAlreadySo) := goodIn_app (goodIn_of _ (by decide +kernel)) ggX4_reasonIn_X4_isAlreadySo
set_option maxRecDepth 20000 in
theorem ggX4_reasonIn_X4_touchedNodes : GoodIn wsX4_reasonIn wsX4_touchedNodes := goodIn_r _ [29, 8, 30, 31, 6, 32, 33, 34, 35, 12, 36, 37, 101, 102, 103, 104, 105, 106, 107, 108, 109, 110, 111, 112, 113] (by decide +kernel) (by decide +kernel)
set_option maxRecDepth 20000 in
theorem gX4_reasonIn_X4_touchedNodes : GoodIn wsX4_reasonIn (wsV RX4 242 RX4 yX4_touchedNodes wsX4_touchedNodes) := goodIn_app (goodIn_of _ (by decide +kernel)) ggX4_reasonIn_X4_touchedNodes
set_option maxRecDepth 20000 in
theorem ggX4_reasonIn_X2_heldNodes : GoodIn wsX4_reasonIn wsX2_heldNodes := goodIn_r _ [42, 43, 44, 117, 118] (by decide +kernel) (by decide +kernel)
set_option maxRecDepth 20000 in
theorem gX4_reasonIn_X2_heldNodes : GoodIn wsX4_reasonIn (wsV RX4 185 RX2 yX2_heldNodes wsX2_heldNodes) := goodIn_app (goodIn_of _ (by decide +kernel)) ggX4_reasonIn_X2_heldNodes
set_option maxRecDepth 20000 in
theorem ggX4_reasonIn_X3_copyFrom : GoodIn wsX4_reasonIn wsX3_copyFrom := goodIn_r _ [48, 20, 21, 22, 114, 115, 116] (by decide +kernel) (by decide +kernel)
set_option maxRecDepth 20000 in
theorem gX4_reasonIn_X3_copyFrom : GoodIn wsX4_reasonIn (wsV RX4 137 RX3 yX3_copyFrom wsX3_copyFrom) := goodIn_app (goodIn_of _ (by decide +kernel)) ggX4_reasonIn_X3_copyFrom
set_option maxRecDepth 20000 in
theorem ggX4_reasonIn_X3_flip : GoodIn wsX4_reasonIn wsX3_flip := goodIn_r _ [52, 20, 21, 22, 114, 115, 116] (by decide +kernel) (by decide +kernel)
set_option maxRecDepth 20000 in
theorem gX4_reasonIn_X3_flip : GoodIn wsX4_reasonIn (wsV RX4 115 RX3 yX3_flip wsX3_flip) := goodIn_app (goodIn_of _ (by decide +kernel)) ggX4_reasonIn_X3_flip
set_option maxRecDepth 20000 in
theorem ggX4_reasonIn_X4_isInterlocked : GoodIn wsX4_reasonIn wsX4_isInterlocked := goodIn_r _ [56, 8, 57, 58, 59, 6, 60, 2, 61, 62, 63, 12, 64, 65, 66, 67, 68, 69, 70, 71, 72, 73, 74, 75, 76, 37, 33, 34, 35, 36, 77, 78, 79, 80, 81, 82, 83, 84, 85, 86, 87, 88, 89, 90, 91, 92, 93, 94, 95, 96, 101, 102, 103, 104, 105, 106, 107, 108, 109, 110, 111, 112, 113, 114, 115, 116] (by decide +kernel) (by decide +kernel)
set_option maxRecDepth 20000 in
theorem gX4_reasonIn_X4_isInterlocked : GoodIn wsX4_reasonIn (wsV RX4 245 RX4 yX4_isInterlocked wsX4_isInterlocked) := goodIn_app (goodIn_of _ (by decide +kernel)) ggX4_reasonIn_X4_isInterlocked
set_option maxRecDepth 20000 in
theorem ggX4_reasonIn_X4_areSafe : GoodIn wsX4_reasonIn wsX4_areSafe := goodIn_r _ [100, 8, 89, 90, 91, 12, 92, 71, 72, 73, 74, 75, 76, 37, 85, 86, 87, 88, 101, 102, 103, 104, 105, 106, 107, 114, 115, 116, 108, 109, 110, 111, 112, 113] (by decide +kernel) (by decide +kernel)
set_option maxRecDepth 20000 in
theorem gX4_reasonIn_X4_areSafe : GoodIn wsX4_reasonIn (wsV RX4 248 RX4 yX4_areSafe wsX4_areSafe) := goodIn_app (goodIn_of _ (by decide +kernel)) ggX4_reasonIn_X4_areSafe
theorem dX4_reasonIn_0 : decode cX4_reasonIn 0 = .ok (.aload_n 0, 1) := by decide +kernel
theorem dX4_reasonIn_1 : decode cX4_reasonIn 1 = .ok (.aload_n 1, 1) := by decide +kernel
theorem dX4_reasonIn_2 : decode cX4_reasonIn 2 = .ok (.iload_n 2, 1) := by decide +kernel
theorem dX4_reasonIn_3 : decode cX4_reasonIn 3 = .ok (.iload_n 3, 1) := by decide +kernel
theorem dX4_reasonIn_4 : decode cX4_reasonIn 4 = .ok (.invokevirtual 238, 3) := by decide +kernel
theorem dX4_reasonIn_7 : decode cX4_reasonIn 7 = .ok (.ifCond .eq 5, 3) := by decide +kernel
theorem dX4_reasonIn_10 : decode cX4_reasonIn 10 = .ok (.iconst 1, 1) := by decide +kernel
theorem dX4_reasonIn_11 : decode cX4_reasonIn 11 = .ok (.ireturn, 1) := by decide +kernel
theorem dX4_reasonIn_12 : decode cX4_reasonIn 12 = .ok (.aload_n 0, 1) := by decide +kernel
theorem dX4_reasonIn_13 : decode cX4_reasonIn 13 = .ok (.iload_n 2, 1) := by decide +kernel
theorem dX4_reasonIn_14 : decode cX4_reasonIn 14 = .ok (.iload_n 3, 1) := by decide +kernel
theorem dX4_reasonIn_15 : decode cX4_reasonIn 15 = .ok (.invokevirtual 242, 3) := by decide +kernel
theorem dX4_reasonIn_18 : decode cX4_reasonIn 18 = .ok (.aload_n 0, 1) := by decide +kernel
theorem dX4_reasonIn_19 : decode cX4_reasonIn 19 = .ok (.getfield 38, 3) := by decide +kernel
theorem dX4_reasonIn_22 : decode cX4_reasonIn 22 = .ok (.invokevirtual 185, 3) := by decide +kernel
theorem dX4_reasonIn_25 : decode cX4_reasonIn 25 = .ok (.iand, 1) := by decide +kernel
theorem dX4_reasonIn_26 : decode cX4_reasonIn 26 = .ok (.ifCond .eq 5, 3) := by decide +kernel
theorem dX4_reasonIn_29 : decode cX4_reasonIn 29 = .ok (.iconst 2, 1) := by decide +kernel
theorem dX4_reasonIn_30 : decode cX4_reasonIn 30 = .ok (.ireturn, 1) := by decide +kernel
theorem dX4_reasonIn_31 : decode cX4_reasonIn 31 = .ok (.aload_n 0, 1) := by decide +kernel
theorem dX4_reasonIn_32 : decode cX4_reasonIn 32 = .ok (.getfield 45, 3) := by decide +kernel
theorem dX4_reasonIn_35 : decode cX4_reasonIn 35 = .ok (.aload_n 1, 1) := by decide +kernel
theorem dX4_reasonIn_36 : decode cX4_reasonIn 36 = .ok (.invokevirtual 137, 3) := by decide +kernel
theorem dX4_reasonIn_39 : decode cX4_reasonIn 39 = .ok (.aload_n 0, 1) := by decide +kernel
theorem dX4_reasonIn_40 : decode cX4_reasonIn 40 = .ok (.getfield 45, 3) := by decide +kernel
theorem dX4_reasonIn_43 : decode cX4_reasonIn 43 = .ok (.iload_n 2, 1) := by decide +kernel
theorem dX4_reasonIn_44 : decode cX4_reasonIn 44 = .ok (.iload_n 3, 1) := by decide +kernel
theorem dX4_reasonIn_45 : decode cX4_reasonIn 45 = .ok (.invokevirtual 115, 3) := by decide +kernel
theorem dX4_reasonIn_48 : decode cX4_reasonIn 48 = .ok (.aload_n 0, 1) := by decide +kernel
theorem dX4_reasonIn_49 : decode cX4_reasonIn 49 = .ok (.aload_n 1, 1) := by decide +kernel
theorem dX4_reasonIn_50 : decode cX4_reasonIn 50 = .ok (.iload_n 2, 1) := by decide +kernel
theorem dX4_reasonIn_51 : decode cX4_reasonIn 51 = .ok (.iload_n 3, 1) := by decide +kernel
theorem dX4_reasonIn_52 : decode cX4_reasonIn 52 = .ok (.invokevirtual 245, 3) := by decide +kernel
theorem dX4_reasonIn_55 : decode cX4_reasonIn 55 = .ok (.ifCond .eq 5, 3) := by decide +kernel
theorem dX4_reasonIn_58 : decode cX4_reasonIn 58 = .ok (.iconst 3, 1) := by decide +kernel
theorem dX4_reasonIn_59 : decode cX4_reasonIn 59 = .ok (.ireturn, 1) := by decide +kernel
theorem dX4_reasonIn_60 : decode cX4_reasonIn 60 = .ok (.aload_n 0, 1) := by decide +kernel
theorem dX4_reasonIn_61 : decode cX4_reasonIn 61 = .ok (.aload_n 0, 1) := by decide +kernel
theorem dX4_reasonIn_62 : decode cX4_reasonIn 62 = .ok (.getfield 38, 3) := by decide +kernel
theorem dX4_reasonIn_65 : decode cX4_reasonIn 65 = .ok (.invokevirtual 185, 3) := by decide +kernel
theorem dX4_reasonIn_68 : decode cX4_reasonIn 68 = .ok (.aload_n 0, 1) := by decide +kernel
theorem dX4_reasonIn_69 : decode cX4_reasonIn 69 = .ok (.getfield 45, 3) := by decide +kernel
theorem dX4_reasonIn_72 : decode cX4_reasonIn 72 = .ok (.invokevirtual 248, 3) := by decide +kernel
theorem dX4_reasonIn_75 : decode cX4_reasonIn 75 = .ok (.ifCond .eq 7, 3) := by decide +kernel
theorem dX4_reasonIn_78 : decode cX4_reasonIn 78 = .ok (.iconst 0, 1) := by decide +kernel
theorem dX4_reasonIn_79 : decode cX4_reasonIn 79 = .ok (.goto 4, 3) := by decide +kernel
theorem dX4_reasonIn_82 : decode cX4_reasonIn 82 = .ok (.iconst 4, 1) := by decide +kernel
theorem dX4_reasonIn_83 : decode cX4_reasonIn 83 = .ok (.ireturn, 1) := by decide +kernel
set_option maxRecDepth 20000 in
theorem ggX4_isAlreadySo_X1_hasSource : GoodIn wsX4_isAlreadySo wsX1_hasSource := goodIn_r _ [6, 7, 27, 28, 29, 30, 31, 32] (by decide +kernel) (by decide +kernel)
set_option maxRecDepth 20000 in
theorem gX4_isAlreadySo_X1_hasSource : GoodIn wsX4_isAlreadySo (wsV RX4 252 RX1 yX1_hasSource wsX1_hasSource) := goodIn_app (goodIn_of _ (by decide +kernel)) ggX4_isAlreadySo_X1_hasSource
set_option maxRecDepth 20000 in
theorem ggX4_isAlreadySo_X3_isOn : GoodIn wsX4_isAlreadySo wsX3_isOn := goodIn_r _ [12, 13, 14, 15, 33, 34, 35] (by decide +kernel) (by decide +kernel)
set_option maxRecDepth 20000 in
theorem gX4_isAlreadySo_X3_isOn : GoodIn wsX4_isAlreadySo (wsV RX4 193 RX3 yX3_isOn wsX3_isOn) := goodIn_app (goodIn_of _ (by decide +kernel)) ggX4_isAlreadySo_X3_isOn
set_option maxRecDepth 20000 in
theorem ggX4_isAlreadySo_X4_turnsOn : GoodIn wsX4_isAlreadySo wsX4_turnsOn := goodIn_r _ [19] (by decide +kernel) (by decide +kernel)
set_option maxRecDepth 20000 in
theorem gX4_isAlreadySo_X4_turnsOn : GoodIn wsX4_isAlreadySo (va_wsS RX4 255 yX4_turnsOn wsX4_turnsOn) := goodIn_app (goodIn_of _ (by decide +kernel)) ggX4_isAlreadySo_X4_turnsOn
theorem dX4_isAlreadySo_0 : decode cX4_isAlreadySo 0 = .ok (.iload_n 2, 1) := by decide +kernel
theorem dX4_isAlreadySo_1 : decode cX4_isAlreadySo 1 = .ok (.iconst 4, 1) := by decide +kernel
theorem dX4_isAlreadySo_2 : decode cX4_isAlreadySo 2 = .ok (.if_icmp .ne 18, 3) := by decide +kernel
theorem dX4_isAlreadySo_5 : decode cX4_isAlreadySo 5 = .ok (.aload_n 0, 1) := by decide +kernel
theorem dX4_isAlreadySo_6 : decode cX4_isAlreadySo 6 = .ok (.getfield 10, 3) := by decide +kernel
theorem dX4_isAlreadySo_9 : decode cX4_isAlreadySo 9 = .ok (.iload_n 3, 1) := by decide +kernel
theorem dX4_isAlreadySo_10 : decode cX4_isAlreadySo 10 = .ok (.invokevirtual 252, 3) := by decide +kernel
theorem dX4_isAlreadySo_13 : decode cX4_isAlreadySo 13 = .ok (.ifCond .ne 7, 3) := by decide +kernel
theorem dX4_isAlreadySo_16 : decode cX4_isAlreadySo 16 = .ok (.iconst 1, 1) := by decide +kernel
theorem dX4_isAlreadySo_17 : decode cX4_isAlreadySo 17 = .ok (.goto 4, 3) := by decide +kernel
theorem dX4_isAlreadySo_20 : decode cX4_isAlreadySo 20 = .ok (.iconst 0, 1) := by decide +kernel
theorem dX4_isAlreadySo_21 : decode cX4_isAlreadySo 21 = .ok (.istore 4, 2) := by decide +kernel
theorem dX4_isAlreadySo_23 : decode cX4_isAlreadySo 23 = .ok (.iload 4, 2) := by decide +kernel
theorem dX4_isAlreadySo_25 : decode cX4_isAlreadySo 25 = .ok (.ifCond .ne 16, 3) := by decide +kernel
theorem dX4_isAlreadySo_28 : decode cX4_isAlreadySo 28 = .ok (.aload_n 1, 1) := by decide +kernel
theorem dX4_isAlreadySo_29 : decode cX4_isAlreadySo 29 = .ok (.iload_n 2, 1) := by decide +kernel
theorem dX4_isAlreadySo_30 : decode cX4_isAlreadySo 30 = .ok (.iload_n 3, 1) := by decide +kernel
theorem dX4_isAlreadySo_31 : decode cX4_isAlreadySo 31 = .ok (.invokevirtual 193, 3) := by decide +kernel
theorem dX4_isAlreadySo_34 : decode cX4_isAlreadySo 34 = .ok (.iload_n 2, 1) := by decide +kernel
theorem dX4_isAlreadySo_35 : decode cX4_isAlreadySo 35 = .ok (.invokestatic 255, 3) := by decide +kernel
theorem dX4_isAlreadySo_38 : decode cX4_isAlreadySo 38 = .ok (.if_icmp .ne 7, 3) := by decide +kernel
theorem dX4_isAlreadySo_41 : decode cX4_isAlreadySo 41 = .ok (.iconst 1, 1) := by decide +kernel
theorem dX4_isAlreadySo_42 : decode cX4_isAlreadySo 42 = .ok (.goto 4, 3) := by decide +kernel
theorem dX4_isAlreadySo_45 : decode cX4_isAlreadySo 45 = .ok (.iconst 0, 1) := by decide +kernel
theorem dX4_isAlreadySo_46 : decode cX4_isAlreadySo 46 = .ok (.ireturn, 1) := by decide +kernel
set_option maxRecDepth 20000 in
theorem ggX4_touchedNodes_X4_isOfSwitch : GoodIn wsX4_touchedNodes wsX4_isOfSwitch := goodIn_r _ [5] (by decide +kernel) (by decide +kernel)
set_option maxRecDepth 20000 in
theorem gX4_touchedNodes_X4_isOfSwitch : GoodIn wsX4_touchedNodes (va_wsS RX4 233 yX4_isOfSwitch wsX4_isOfSwitch) := goodIn_app (goodIn_of _ (by decide +kernel)) ggX4_touchedNodes_X4_isOfSwitch
set_option maxRecDepth 20000 in
theorem ggX4_touchedNodes_X1_endsOf : GoodIn wsX4_touchedNodes wsX1_endsOf := goodIn_r _ [10, 11, 19, 20, 21, 22, 23, 24] (by decide +kernel) (by decide +kernel)
set_option maxRecDepth 20000 in
theorem gX4_touchedNodes_X1_endsOf : GoodIn wsX4_touchedNodes (wsV RX4 258 RX1 yX1_endsOf wsX1_endsOf) := goodIn_app (goodIn_of _ (by decide +kernel)) ggX4_touchedNodes_X1_endsOf
theorem dX4_touchedNodes_0 : decode cX4_touchedNodes 0 = .ok (.iload_n 1, 1) := by decide +kernel
theorem dX4_touchedNodes_1 : decode cX4_touchedNodes 1 = .ok (.invokestatic 233, 3) := by decide +kernel
theorem dX4_touchedNodes_4 : decode cX4_touchedNodes 4 = .ok (.ifCond .eq 14, 3) := by decide +kernel
theorem dX4_touchedNodes_7 : decode cX4_touchedNodes 7 = .ok (.aload_n 0, 1) := by decide +kernel
theorem dX4_touchedNodes_8 : decode cX4_touchedNodes 8 = .ok (.getfield 10, 3) := by decide +kernel
theorem dX4_touchedNodes_11 : decode cX4_touchedNodes 11 = .ok (.iload_n 2, 1) := by decide +kernel
theorem dX4_touchedNodes_12 : decode cX4_touchedNodes 12 = .ok (.invokevirtual 258, 3) := by decide +kernel
theorem dX4_touchedNodes_15 : decode cX4_touchedNodes 15 = .ok (.goto 6, 3) := by decide +kernel
theorem dX4_touchedNodes_18 : decode cX4_touchedNodes 18 = .ok (.iconst 1, 1) := by decide +kernel
theorem dX4_touchedNodes_19 : decode cX4_touchedNodes 19 = .ok (.iload_n 2, 1) := by decide +kernel
theorem dX4_touchedNodes_20 : decode cX4_touchedNodes 20 = .ok (.ishl, 1) := by decide +kernel
theorem dX4_touchedNodes_21 : decode cX4_touchedNodes 21 = .ok (.ireturn, 1) := by decide +kernel
set_option maxRecDepth 20000 in
theorem ggX4_isInterlocked_X4_breaksLoad : GoodIn wsX4_isInterlocked wsX4_breaksLoad := goodIn_r _ [6, 1, 7, 8, 9, 10, 11, 12, 13, 14, 15, 16, 17, 18, 19, 20, 21, 22, 23, 24, 25, 26, 27, 28, 29, 30, 31, 32, 33, 50, 51, 52, 53, 54, 55, 56, 57, 58, 59, 60, 61, 62, 63, 64, 65] (by decide +kernel) (by decide +kernel)
set_option maxRecDepth 20000 in
theorem gX4_isInterlocked_X4_breaksLoad : GoodIn wsX4_isInterlocked (wsV RX4 261 RX4 yX4_breaksLoad wsX4_breaksLoad) := goodIn_app (goodIn_of _ (by decide +kernel)) ggX4_isInterlocked_X4_breaksLoad
set_option maxRecDepth 20000 in
theorem ggX4_isInterlocked_X4_joinsLiveAndEarthed : GoodIn wsX4_isInterlocked wsX4_joinsLiveAndEarthed := goodIn_r _ [37, 1, 26, 27, 28, 11, 29, 25, 38, 39, 40, 41, 19, 20, 21, 22, 23, 24, 42, 43, 44, 45, 50, 51, 52, 53, 54, 55, 56, 57, 58, 59, 60, 61, 62, 63, 64, 65] (by decide +kernel) (by decide +kernel)
set_option maxRecDepth 20000 in
theorem gX4_isInterlocked_X4_joinsLiveAndEarthed : GoodIn wsX4_isInterlocked (wsV RX4 265 RX4 yX4_joinsLiveAndEarthed wsX4_joinsLiveAndEarthed) := goodIn_app (goodIn_of _ (by decide +kernel)) ggX4_isInterlocked_X4_joinsLiveAndEarthed
set_option maxRecDepth 20000 in
theorem ggX4_isInterlocked_X4_makesLoad : GoodIn wsX4_isInterlocked wsX4_makesLoad := goodIn_r _ [49, 1, 7, 8, 9, 10, 11, 12, 13, 30, 31, 32, 33, 25, 19, 20, 21, 22, 23, 24, 14, 15, 16, 17, 18, 26, 27, 28, 29, 50, 51, 52, 53, 54, 55, 56, 57, 58, 59, 60, 61, 62, 63, 64, 65] (by decide +kernel) (by decide +kernel)
set_option maxRecDepth 20000 in
theorem gX4_isInterlocked_X4_makesLoad : GoodIn wsX4_isInterlocked (wsV RX4 268 RX4 yX4_makesLoad wsX4_makesLoad) := goodIn_app (goodIn_of _ (by decide +kernel)) ggX4_isInterlocked_X4_makesLoad
set_option maxRecDepth 20000 in
theorem ggX4_isInterlocked_X1_liveNodes : GoodIn wsX4_isInterlocked wsX1_liveNodes := goodIn_r _ [41, 19, 20, 21, 11, 22, 23, 24, 25, 63, 64, 65, 57, 58, 59, 60, 61, 62] (by decide +kernel) (by decide +kernel)
set_option maxRecDepth 20000 in
theorem gX4_isInterlocked_X1_liveNodes : GoodIn wsX4_isInterlocked (wsV RX4 197 RX1 yX1_liveNodes wsX1_liveNodes) := goodIn_app (goodIn_of _ (by decide +kernel)) ggX4_isInterlocked_X1_liveNodes
set_option maxRecDepth 20000 in
theorem ggX4_isInterlocked_X1_earthedNodes : GoodIn wsX4_isInterlocked wsX1_earthedNodes := goodIn_r _ [45, 19, 20, 21, 11, 22, 23, 24, 25, 63, 64, 65, 57, 58, 59, 60, 61, 62] (by decide +kernel) (by decide +kernel)
set_option maxRecDepth 20000 in
theorem gX4_isInterlocked_X1_earthedNodes : GoodIn wsX4_isInterlocked (wsV RX4 204 RX1 yX1_earthedNodes wsX1_earthedNodes) := goodIn_app (goodIn_of _ (by decide +kernel)) ggX4_isInterlocked_X1_earthedNodes
theorem dX4_isInterlocked_0 : decode cX4_isInterlocked 0 = .ok (.iload_n 2, 1) := by decide +kernel
theorem dX4_isInterlocked_1 : decode cX4_isInterlocked 1 = .ok (.tableswitch 108 0 4 #[35, 42, 66, 108, 87], 35) := by decide +kernel
theorem dX4_isInterlocked_36 : decode cX4_isInterlocked 36 = .ok (.aload_n 0, 1) := by decide +kernel
theorem dX4_isInterlocked_37 : decode cX4_isInterlocked 37 = .ok (.aload_n 1, 1) := by decide +kernel
theorem dX4_isInterlocked_38 : decode cX4_isInterlocked 38 = .ok (.iload_n 3, 1) := by decide +kernel
theorem dX4_isInterlocked_39 : decode cX4_isInterlocked 39 = .ok (.invokevirtual 261, 3) := by decide +kernel
theorem dX4_isInterlocked_42 : decode cX4_isInterlocked 42 = .ok (.ireturn, 1) := by decide +kernel
theorem dX4_isInterlocked_43 : decode cX4_isInterlocked 43 = .ok (.aload_n 0, 1) := by decide +kernel
theorem dX4_isInterlocked_44 : decode cX4_isInterlocked 44 = .ok (.aload_n 1, 1) := by decide +kernel
theorem dX4_isInterlocked_45 : decode cX4_isInterlocked 45 = .ok (.iload_n 3, 1) := by decide +kernel
theorem dX4_isInterlocked_46 : decode cX4_isInterlocked 46 = .ok (.invokevirtual 265, 3) := by decide +kernel
theorem dX4_isInterlocked_49 : decode cX4_isInterlocked 49 = .ok (.ifCond .ne 12, 3) := by decide +kernel
theorem dX4_isInterlocked_52 : decode cX4_isInterlocked 52 = .ok (.aload_n 0, 1) := by decide +kernel
theorem dX4_isInterlocked_53 : decode cX4_isInterlocked 53 = .ok (.aload_n 1, 1) := by decide +kernel
theorem dX4_isInterlocked_54 : decode cX4_isInterlocked 54 = .ok (.iload_n 3, 1) := by decide +kernel
theorem dX4_isInterlocked_55 : decode cX4_isInterlocked 55 = .ok (.invokevirtual 268, 3) := by decide +kernel
theorem dX4_isInterlocked_58 : decode cX4_isInterlocked 58 = .ok (.ifCond .eq 7, 3) := by decide +kernel
theorem dX4_isInterlocked_61 : decode cX4_isInterlocked 61 = .ok (.iconst 1, 1) := by decide +kernel
theorem dX4_isInterlocked_62 : decode cX4_isInterlocked 62 = .ok (.goto 4, 3) := by decide +kernel
theorem dX4_isInterlocked_65 : decode cX4_isInterlocked 65 = .ok (.iconst 0, 1) := by decide +kernel
theorem dX4_isInterlocked_66 : decode cX4_isInterlocked 66 = .ok (.ireturn, 1) := by decide +kernel
theorem dX4_isInterlocked_67 : decode cX4_isInterlocked 67 = .ok (.aload_n 0, 1) := by decide +kernel
theorem dX4_isInterlocked_68 : decode cX4_isInterlocked 68 = .ok (.getfield 10, 3) := by decide +kernel
theorem dX4_isInterlocked_71 : decode cX4_isInterlocked 71 = .ok (.aload_n 1, 1) := by decide +kernel
theorem dX4_isInterlocked_72 : decode cX4_isInterlocked 72 = .ok (.invokevirtual 197, 3) := by decide +kernel
theorem dX4_isInterlocked_75 : decode cX4_isInterlocked 75 = .ok (.iload_n 3, 1) := by decide +kernel
theorem dX4_isInterlocked_76 : decode cX4_isInterlocked 76 = .ok (.ishr, 1) := by decide +kernel
theorem dX4_isInterlocked_77 : decode cX4_isInterlocked 77 = .ok (.iconst 1, 1) := by decide +kernel
theorem dX4_isInterlocked_78 : decode cX4_isInterlocked 78 = .ok (.iand, 1) := by decide +kernel
theorem dX4_isInterlocked_79 : decode cX4_isInterlocked 79 = .ok (.ifCond .eq 7, 3) := by decide +kernel
theorem dX4_isInterlocked_82 : decode cX4_isInterlocked 82 = .ok (.iconst 1, 1) := by decide +kernel
theorem dX4_isInterlocked_83 : decode cX4_isInterlocked 83 = .ok (.goto 4, 3) := by decide +kernel
theorem dX4_isInterlocked_86 : decode cX4_isInterlocked 86 = .ok (.iconst 0, 1) := by decide +kernel
theorem dX4_isInterlocked_87 : decode cX4_isInterlocked 87 = .ok (.ireturn, 1) := by decide +kernel
theorem dX4_isInterlocked_88 : decode cX4_isInterlocked 88 = .ok (.aload_n 0, 1) := by decide +kernel
theorem dX4_isInterlocked_89 : decode cX4_isInterlocked 89 = .ok (.getfield 10, 3) := by decide +kernel
theorem dX4_isInterlocked_92 : decode cX4_isInterlocked 92 = .ok (.aload_n 1, 1) := by decide +kernel
theorem dX4_isInterlocked_93 : decode cX4_isInterlocked 93 = .ok (.invokevirtual 204, 3) := by decide +kernel
theorem dX4_isInterlocked_96 : decode cX4_isInterlocked 96 = .ok (.iload_n 3, 1) := by decide +kernel
theorem dX4_isInterlocked_97 : decode cX4_isInterlocked 97 = .ok (.ishr, 1) := by decide +kernel
theorem dX4_isInterlocked_98 : decode cX4_isInterlocked 98 = .ok (.iconst 1, 1) := by decide +kernel
theorem dX4_isInterlocked_99 : decode cX4_isInterlocked 99 = .ok (.iand, 1) := by decide +kernel
theorem dX4_isInterlocked_100 : decode cX4_isInterlocked 100 = .ok (.ifCond .eq 7, 3) := by decide +kernel
theorem dX4_isInterlocked_103 : decode cX4_isInterlocked 103 = .ok (.iconst 1, 1) := by decide +kernel
theorem dX4_isInterlocked_104 : decode cX4_isInterlocked 104 = .ok (.goto 4, 3) := by decide +kernel
theorem dX4_isInterlocked_107 : decode cX4_isInterlocked 107 = .ok (.iconst 0, 1) := by decide +kernel
theorem dX4_isInterlocked_108 : decode cX4_isInterlocked 108 = .ok (.ireturn, 1) := by decide +kernel
theorem dX4_isInterlocked_109 : decode cX4_isInterlocked 109 = .ok (.iconst 0, 1) := by decide +kernel
theorem dX4_isInterlocked_110 : decode cX4_isInterlocked 110 = .ok (.ireturn, 1) := by decide +kernel
set_option maxRecDepth 20000 in
theorem ggX4_breaksLoad_X1_isBreaker : GoodIn wsX4_breaksLoad wsX1_isBreaker := goodIn_r _ [7, 8, 36, 37, 38, 39, 40, 41] (by decide +kernel) (by decide +kernel)
set_option maxRecDepth 20000 in
theorem gX4_breaksLoad_X1_isBreaker : GoodIn wsX4_breaksLoad (wsV RX4 271 RX1 yX1_isBreaker wsX1_isBreaker) := goodIn_app (goodIn_of _ (by decide +kernel)) ggX4_breaksLoad_X1_isBreaker
set_option maxRecDepth 20000 in
theorem ggX4_breaksLoad_X1_loadedNodes : GoodIn wsX4_breaksLoad wsX1_loadedNodes := goodIn_r _ [12, 13, 14, 15, 16, 6, 17, 18, 19, 20, 42, 43, 44, 36, 37, 38, 39, 40, 41] (by decide +kernel) (by decide +kernel)
set_option maxRecDepth 20000 in
theorem gX4_breaksLoad_X1_loadedNodes : GoodIn wsX4_breaksLoad (wsV RX4 201 RX1 yX1_loadedNodes wsX1_loadedNodes) := goodIn_app (goodIn_of _ (by decide +kernel)) ggX4_breaksLoad_X1_loadedNodes
set_option maxRecDepth 20000 in
theorem ggX4_breaksLoad_X1_endsOf : GoodIn wsX4_breaksLoad wsX1_endsOf := goodIn_r _ [24, 20, 36, 37, 38, 39, 40, 41] (by decide +kernel) (by decide +kernel)
set_option maxRecDepth 20000 in
theorem gX4_breaksLoad_X1_endsOf : GoodIn wsX4_breaksLoad (wsV RX4 258 RX1 yX1_endsOf wsX1_endsOf) := goodIn_app (goodIn_of _ (by decide +kernel)) ggX4_breaksLoad_X1_endsOf
set_option maxRecDepth 20000 in
theorem ggX4_breaksLoad_X1_areEndsConnected : GoodIn wsX4_breaksLoad wsX1_areEndsConnected := goodIn_r _ [28, 20, 14, 15, 16, 6, 17, 18, 19, 36, 37, 38, 39, 40, 41, 42, 43, 44] (by decide +kernel) (by decide +kernel)
set_option maxRecDepth 20000 in
theorem gX4_breaksLoad_X1_areEndsConnected : GoodIn wsX4_breaksLoad (wsV RX4 274 RX1 yX1_areEndsConnected wsX1_areEndsConnected) := goodIn_app (goodIn_of _ (by decide +kernel)) ggX4_breaksLoad_X1_areEndsConnected
theorem dX4_breaksLoad_0 : decode cX4_breaksLoad 0 = .ok (.aload_n 0, 1) := by decide +kernel
theorem dX4_breaksLoad_1 : decode cX4_breaksLoad 1 = .ok (.getfield 10, 3) := by decide +kernel
theorem dX4_breaksLoad_4 : decode cX4_breaksLoad 4 = .ok (.iload_n 2, 1) := by decide +kernel
theorem dX4_breaksLoad_5 : decode cX4_breaksLoad 5 = .ok (.invokevirtual 271, 3) := by decide +kernel
theorem dX4_breaksLoad_8 : decode cX4_breaksLoad 8 = .ok (.ifCond .ne 42, 3) := by decide +kernel
theorem dX4_breaksLoad_11 : decode cX4_breaksLoad 11 = .ok (.aload_n 0, 1) := by decide +kernel
theorem dX4_breaksLoad_12 : decode cX4_breaksLoad 12 = .ok (.getfield 10, 3) := by decide +kernel
theorem dX4_breaksLoad_15 : decode cX4_breaksLoad 15 = .ok (.aload_n 1, 1) := by decide +kernel
theorem dX4_breaksLoad_16 : decode cX4_breaksLoad 16 = .ok (.invokevirtual 201, 3) := by decide +kernel
theorem dX4_breaksLoad_19 : decode cX4_breaksLoad 19 = .ok (.aload_n 0, 1) := by decide +kernel
theorem dX4_breaksLoad_20 : decode cX4_breaksLoad 20 = .ok (.getfield 10, 3) := by decide +kernel
theorem dX4_breaksLoad_23 : decode cX4_breaksLoad 23 = .ok (.iload_n 2, 1) := by decide +kernel
theorem dX4_breaksLoad_24 : decode cX4_breaksLoad 24 = .ok (.invokevirtual 258, 3) := by decide +kernel
theorem dX4_breaksLoad_27 : decode cX4_breaksLoad 27 = .ok (.iand, 1) := by decide +kernel
theorem dX4_breaksLoad_28 : decode cX4_breaksLoad 28 = .ok (.ifCond .eq 22, 3) := by decide +kernel
theorem dX4_breaksLoad_31 : decode cX4_breaksLoad 31 = .ok (.aload_n 0, 1) := by decide +kernel
theorem dX4_breaksLoad_32 : decode cX4_breaksLoad 32 = .ok (.getfield 10, 3) := by decide +kernel
theorem dX4_breaksLoad_35 : decode cX4_breaksLoad 35 = .ok (.iload_n 2, 1) := by decide +kernel
theorem dX4_breaksLoad_36 : decode cX4_breaksLoad 36 = .ok (.aload_n 0, 1) := by decide +kernel
theorem dX4_breaksLoad_37 : decode cX4_breaksLoad 37 = .ok (.getfield 45, 3) := by decide +kernel
theorem dX4_breaksLoad_40 : decode cX4_breaksLoad 40 = .ok (.invokevirtual 274, 3) := by decide +kernel
theorem dX4_breaksLoad_43 : decode cX4_breaksLoad 43 = .ok (.ifCond .ne 7, 3) := by decide +kernel
theorem dX4_breaksLoad_46 : decode cX4_breaksLoad 46 = .ok (.iconst 1, 1) := by decide +kernel
theorem dX4_breaksLoad_47 : decode cX4_breaksLoad 47 = .ok (.goto 4, 3) := by decide +kernel
theorem dX4_breaksLoad_50 : decode cX4_breaksLoad 50 = .ok (.iconst 0, 1) := by decide +kernel
theorem dX4_breaksLoad_51 : decode cX4_breaksLoad 51 = .ok (.ireturn, 1) := by decide +kernel
set_option maxRecDepth 20000 in
theorem ggX4_makesLoad_X1_isBreaker : GoodIn wsX4_makesLoad wsX1_isBreaker := goodIn_r _ [7, 8, 36, 37, 38, 39, 40, 41] (by decide +kernel) (by decide +kernel)
set_option maxRecDepth 20000 in
theorem gX4_makesLoad_X1_isBreaker : GoodIn wsX4_makesLoad (wsV RX4 271 RX1 yX1_isBreaker wsX1_isBreaker) := goodIn_app (goodIn_of _ (by decide +kernel)) ggX4_makesLoad_X1_isBreaker
set_option maxRecDepth 20000 in
theorem ggX4_makesLoad_X1_areEndsConnected : GoodIn wsX4_makesLoad wsX1_areEndsConnected := goodIn_r _ [12, 13, 14, 15, 16, 6, 17, 18, 19, 36, 37, 38, 39, 40, 41, 42, 43, 44] (by decide +kernel) (by decide +kernel)
set_option maxRecDepth 20000 in
theorem gX4_makesLoad_X1_areEndsConnected : GoodIn wsX4_makesLoad (wsV RX4 274 RX1 yX1_areEndsConnected wsX1_areEndsConnected) := goodIn_app (goodIn_of _ (by decide +kernel)) ggX4_makesLoad_X1_areEndsConnected
set_option maxRecDepth 20000 in
theorem ggX4_makesLoad_X1_loadedNodes : GoodIn wsX4_makesLoad wsX1_loadedNodes := goodIn_r _ [23, 24, 14, 15, 16, 6, 17, 18, 19, 13, 42, 43, 44, 36, 37, 38, 39, 40, 41] (by decide +kernel) (by decide +kernel)
set_option maxRecDepth 20000 in
theorem gX4_makesLoad_X1_loadedNodes : GoodIn wsX4_makesLoad (wsV RX4 201 RX1 yX1_loadedNodes wsX1_loadedNodes) := goodIn_app (goodIn_of _ (by decide +kernel)) ggX4_makesLoad_X1_loadedNodes
set_option maxRecDepth 20000 in
theorem ggX4_makesLoad_X1_endsOf : GoodIn wsX4_makesLoad wsX1_endsOf := goodIn_r _ [28, 13, 36, 37, 38, 39, 40, 41] (by decide +kernel) (by decide +kernel)
set_option maxRecDepth 20000 in
theorem gX4_makesLoad_X1_endsOf : GoodIn wsX4_makesLoad (wsV RX4 258 RX1 yX1_endsOf wsX1_endsOf) := goodIn_app (goodIn_of _ (by decide +kernel)) ggX4_makesLoad_X1_endsOf
theorem dX4_makesLoad_0 : decode cX4_makesLoad 0 = .ok (.aload_n 0, 1) := by decide +kernel
theorem dX4_makesLoad_1 : decode cX4_makesLoad 1 = .ok (.getfield 10, 3) := by decide +kernel
theorem dX4_makesLoad_4 : decode cX4_makesLoad 4 = .ok (.iload_n 2, 1) := by decide +kernel
theorem dX4_makesLoad_5 : decode cX4_makesLoad 5 = .ok (.invokevirtual 271, 3) := by decide +kernel
theorem dX4_makesLoad_8 : decode cX4_makesLoad 8 = .ok (.ifCond .ne 42, 3) := by decide +kernel
theorem dX4_makesLoad_11 : decode cX4_makesLoad 11 = .ok (.aload_n 0, 1) := by decide +kernel
theorem dX4_makesLoad_12 : decode cX4_makesLoad 12 = .ok (.getfield 10, 3) := by decide +kernel
theorem dX4_makesLoad_15 : decode cX4_makesLoad 15 = .ok (.iload_n 2, 1) := by decide +kernel
theorem dX4_makesLoad_16 : decode cX4_makesLoad 16 = .ok (.aload_n 1, 1) := by decide +kernel
theorem dX4_makesLoad_17 : decode cX4_makesLoad 17 = .ok (.invokevirtual 274, 3) := by decide +kernel
theorem dX4_makesLoad_20 : decode cX4_makesLoad 20 = .ok (.ifCond .ne 30, 3) := by decide +kernel
theorem dX4_makesLoad_23 : decode cX4_makesLoad 23 = .ok (.aload_n 0, 1) := by decide +kernel
theorem dX4_makesLoad_24 : decode cX4_makesLoad 24 = .ok (.getfield 10, 3) := by decide +kernel
theorem dX4_makesLoad_27 : decode cX4_makesLoad 27 = .ok (.aload_n 0, 1) := by decide +kernel
theorem dX4_makesLoad_28 : decode cX4_makesLoad 28 = .ok (.getfield 45, 3) := by decide +kernel
theorem dX4_makesLoad_31 : decode cX4_makesLoad 31 = .ok (.invokevirtual 201, 3) := by decide +kernel
theorem dX4_makesLoad_34 : decode cX4_makesLoad 34 = .ok (.aload_n 0, 1) := by decide +kernel
theorem dX4_makesLoad_35 : decode cX4_makesLoad 35 = .ok (.getfield 10, 3) := by decide +kernel
theorem dX4_makesLoad_38 : decode cX4_makesLoad 38 = .ok (.iload_n 2, 1) := by decide +kernel
theorem dX4_makesLoad_39 : decode cX4_makesLoad 39 = .ok (.invokevirtual 258, 3) := by decide +kernel
theorem dX4_makesLoad_42 : decode cX4_makesLoad 42 = .ok (.iand, 1) := by decide +kernel
theorem dX4_makesLoad_43 : decode cX4_makesLoad 43 = .ok (.ifCond .eq 7, 3) := by decide +kernel
theorem dX4_makesLoad_46 : decode cX4_makesLoad 46 = .ok (.iconst 1, 1) := by decide +kernel
theorem dX4_makesLoad_47 : decode cX4_makesLoad 47 = .ok (.goto 4, 3) := by decide +kernel
theorem dX4_makesLoad_50 : decode cX4_makesLoad 50 = .ok (.iconst 0, 1) := by decide +kernel
theorem dX4_makesLoad_51 : decode cX4_makesLoad 51 = .ok (.ireturn, 1) := by decide +kernel
set_option maxRecDepth 20000 in
theorem ggX4_joinsLiveAndEarthed_X1_endsOf : GoodIn wsX4_joinsLiveAndEarthed wsX1_endsOf := goodIn_r _ [6, 7, 29, 30, 31, 32, 33, 34] (by decide +kernel) (by decide +kernel)
set_option maxRecDepth 20000 in
theorem gX4_joinsLiveAndEarthed_X1_endsOf : GoodIn wsX4_joinsLiveAndEarthed (wsV RX4 258 RX1 yX1_endsOf wsX1_endsOf) := goodIn_app (goodIn_of _ (by decide +kernel)) ggX4_joinsLiveAndEarthed_X1_endsOf
set_option maxRecDepth 20000 in
theorem ggX4_joinsLiveAndEarthed_X1_liveNodes : GoodIn wsX4_joinsLiveAndEarthed wsX1_liveNodes := goodIn_r _ [11, 12, 13, 14, 5, 15, 16, 17, 7, 35, 36, 37, 29, 30, 31, 32, 33, 34] (by decide +kernel) (by decide +kernel)
set_option maxRecDepth 20000 in
theorem gX4_joinsLiveAndEarthed_X1_liveNodes : GoodIn wsX4_joinsLiveAndEarthed (wsV RX4 197 RX1 yX1_liveNodes wsX1_liveNodes) := goodIn_app (goodIn_of _ (by decide +kernel)) ggX4_joinsLiveAndEarthed_X1_liveNodes
set_option maxRecDepth 20000 in
theorem ggX4_joinsLiveAndEarthed_X1_earthedNodes : GoodIn wsX4_joinsLiveAndEarthed wsX1_earthedNodes := goodIn_r _ [21, 12, 13, 14, 5, 15, 16, 17, 7, 35, 36, 37, 29, 30, 31, 32, 33, 34] (by decide +kernel) (by decide +kernel)
set_option maxRecDepth 20000 in
theorem gX4_joinsLiveAndEarthed_X1_earthedNodes : GoodIn wsX4_joinsLiveAndEarthed (wsV RX4 204 RX1 yX1_earthedNodes wsX1_earthedNodes) := goodIn_app (goodIn_of _ (by decide +kernel)) ggX4_joinsLiveAndEarthed_X1_earthedNodes
theorem dX4_joinsLiveAndEarthed_0 : decode cX4_joinsLiveAndEarthed 0 = .ok (.aload_n 0, 1) := by decide +kernel
theorem dX4_joinsLiveAndEarthed_1 : decode cX4_joinsLiveAndEarthed 1 = .ok (.getfield 10, 3) := by decide +kernel
theorem dX4_joinsLiveAndEarthed_4 : decode cX4_joinsLiveAndEarthed 4 = .ok (.iload_n 2, 1) := by decide +kernel
theorem dX4_joinsLiveAndEarthed_5 : decode cX4_joinsLiveAndEarthed 5 = .ok (.invokevirtual 258, 3) := by decide +kernel
theorem dX4_joinsLiveAndEarthed_8 : decode cX4_joinsLiveAndEarthed 8 = .ok (.istore_n 3, 1) := by decide +kernel
theorem dX4_joinsLiveAndEarthed_9 : decode cX4_joinsLiveAndEarthed 9 = .ok (.aload_n 0, 1) := by decide +kernel
theorem dX4_joinsLiveAndEarthed_10 : decode cX4_joinsLiveAndEarthed 10 = .ok (.getfield 10, 3) := by decide +kernel
theorem dX4_joinsLiveAndEarthed_13 : decode cX4_joinsLiveAndEarthed 13 = .ok (.aload_n 1, 1) := by decide +kernel
theorem dX4_joinsLiveAndEarthed_14 : decode cX4_joinsLiveAndEarthed 14 = .ok (.invokevirtual 197, 3) := by decide +kernel
theorem dX4_joinsLiveAndEarthed_17 : decode cX4_joinsLiveAndEarthed 17 = .ok (.iload_n 3, 1) := by decide +kernel
theorem dX4_joinsLiveAndEarthed_18 : decode cX4_joinsLiveAndEarthed 18 = .ok (.iand, 1) := by decide +kernel
theorem dX4_joinsLiveAndEarthed_19 : decode cX4_joinsLiveAndEarthed 19 = .ok (.ifCond .eq 20, 3) := by decide +kernel
theorem dX4_joinsLiveAndEarthed_22 : decode cX4_joinsLiveAndEarthed 22 = .ok (.aload_n 0, 1) := by decide +kernel
theorem dX4_joinsLiveAndEarthed_23 : decode cX4_joinsLiveAndEarthed 23 = .ok (.getfield 10, 3) := by decide +kernel
theorem dX4_joinsLiveAndEarthed_26 : decode cX4_joinsLiveAndEarthed 26 = .ok (.aload_n 1, 1) := by decide +kernel
theorem dX4_joinsLiveAndEarthed_27 : decode cX4_joinsLiveAndEarthed 27 = .ok (.invokevirtual 204, 3) := by decide +kernel
theorem dX4_joinsLiveAndEarthed_30 : decode cX4_joinsLiveAndEarthed 30 = .ok (.iload_n 3, 1) := by decide +kernel
theorem dX4_joinsLiveAndEarthed_31 : decode cX4_joinsLiveAndEarthed 31 = .ok (.iand, 1) := by decide +kernel
theorem dX4_joinsLiveAndEarthed_32 : decode cX4_joinsLiveAndEarthed 32 = .ok (.ifCond .eq 7, 3) := by decide +kernel
theorem dX4_joinsLiveAndEarthed_35 : decode cX4_joinsLiveAndEarthed 35 = .ok (.iconst 1, 1) := by decide +kernel
theorem dX4_joinsLiveAndEarthed_36 : decode cX4_joinsLiveAndEarthed 36 = .ok (.goto 4, 3) := by decide +kernel
theorem dX4_joinsLiveAndEarthed_39 : decode cX4_joinsLiveAndEarthed 39 = .ok (.iconst 0, 1) := by decide +kernel
theorem dX4_joinsLiveAndEarthed_40 : decode cX4_joinsLiveAndEarthed 40 = .ok (.ireturn, 1) := by decide +kernel
set_option maxRecDepth 20000 in
theorem ggX4_canBeHeld_X4_areSafe : GoodIn wsX4_canBeHeld wsX4_areSafe := goodIn_r _ [7, 8, 9, 10, 11, 12, 13, 14, 15, 16, 17, 18, 19, 20, 21, 22, 23, 24, 32, 33, 34, 35, 36, 37, 38, 39, 40, 41, 42, 43, 44, 45, 46, 47] (by decide +kernel) (by decide +kernel)
set_option maxRecDepth 20000 in
theorem gX4_canBeHeld_X4_areSafe : GoodIn wsX4_canBeHeld (wsV RX4 248 RX4 yX4_areSafe wsX4_areSafe) := goodIn_app (goodIn_of _ (by decide +kernel)) ggX4_canBeHeld_X4_areSafe
set_option maxRecDepth 20000 in
theorem ggX4_canBeHeld_X2_heldNodes : GoodIn wsX4_canBeHeld wsX2_heldNodes := goodIn_r _ [29, 30, 31, 48, 49] (by decide +kernel) (by decide +kernel)
set_option maxRecDepth 20000 in
theorem gX4_canBeHeld_X2_heldNodes : GoodIn wsX4_canBeHeld (wsV RX4 185 RX2 yX2_heldNodes wsX2_heldNodes) := goodIn_app (goodIn_of _ (by decide +kernel)) ggX4_canBeHeld_X2_heldNodes
theorem dX4_canBeHeld_0 : decode cX4_canBeHeld 0 = .ok (.aload_n 0, 1) := by decide +kernel
theorem dX4_canBeHeld_1 : decode cX4_canBeHeld 1 = .ok (.iload_n 1, 1) := by decide +kernel
theorem dX4_canBeHeld_2 : decode cX4_canBeHeld 2 = .ok (.aload_n 0, 1) := by decide +kernel
theorem dX4_canBeHeld_3 : decode cX4_canBeHeld 3 = .ok (.getfield 19, 3) := by decide +kernel
theorem dX4_canBeHeld_6 : decode cX4_canBeHeld 6 = .ok (.invokevirtual 248, 3) := by decide +kernel
theorem dX4_canBeHeld_9 : decode cX4_canBeHeld 9 = .ok (.ifCond .eq 19, 3) := by decide +kernel
theorem dX4_canBeHeld_12 : decode cX4_canBeHeld 12 = .ok (.iload_n 1, 1) := by decide +kernel
theorem dX4_canBeHeld_13 : decode cX4_canBeHeld 13 = .ok (.aload_n 0, 1) := by decide +kernel
theorem dX4_canBeHeld_14 : decode cX4_canBeHeld 14 = .ok (.getfield 38, 3) := by decide +kernel
theorem dX4_canBeHeld_17 : decode cX4_canBeHeld 17 = .ok (.invokevirtual 185, 3) := by decide +kernel
theorem dX4_canBeHeld_20 : decode cX4_canBeHeld 20 = .ok (.iand, 1) := by decide +kernel
theorem dX4_canBeHeld_21 : decode cX4_canBeHeld 21 = .ok (.ifCond .ne 7, 3) := by decide +kernel
theorem dX4_canBeHeld_24 : decode cX4_canBeHeld 24 = .ok (.iconst 1, 1) := by decide +kernel
theorem dX4_canBeHeld_25 : decode cX4_canBeHeld 25 = .ok (.goto 4, 3) := by decide +kernel
theorem dX4_canBeHeld_28 : decode cX4_canBeHeld 28 = .ok (.iconst 0, 1) := by decide +kernel
theorem dX4_canBeHeld_29 : decode cX4_canBeHeld 29 = .ok (.ireturn, 1) := by decide +kernel
set_option maxRecDepth 20000 in
theorem ggX4_areSafe_X1_earthedNodes : GoodIn wsX4_areSafe wsX1_earthedNodes := goodIn_r _ [6, 7, 8, 9, 5, 10, 11, 12, 13, 25, 26, 27, 28, 29, 30, 31, 32, 33] (by decide +kernel) (by decide +kernel)
set_option maxRecDepth 20000 in
theorem gX4_areSafe_X1_earthedNodes : GoodIn wsX4_areSafe (wsV RX4 204 RX1 yX1_earthedNodes wsX1_earthedNodes) := goodIn_app (goodIn_of _ (by decide +kernel)) ggX4_areSafe_X1_earthedNodes
set_option maxRecDepth 20000 in
theorem ggX4_areSafe_X1_liveNodes : GoodIn wsX4_areSafe wsX1_liveNodes := goodIn_r _ [17, 7, 8, 9, 5, 10, 11, 12, 13, 25, 26, 27, 28, 29, 30, 31, 32, 33] (by decide +kernel) (by decide +kernel)
set_option maxRecDepth 20000 in
theorem gX4_areSafe_X1_liveNodes : GoodIn wsX4_areSafe (wsV RX4 197 RX1 yX1_liveNodes wsX1_liveNodes) := goodIn_app (goodIn_of _ (by decide +kernel)) ggX4_areSafe_X1_liveNodes
theorem dX4_areSafe_0 : decode cX4_areSafe 0 = .ok (.iload_n 1, 1) := by decide +kernel
theorem dX4_areSafe_1 : decode cX4_areSafe 1 = .ok (.aload_n 0, 1) := by decide +kernel
theorem dX4_areSafe_2 : decode cX4_areSafe 2 = .ok (.getfield 10, 3) := by decide +kernel
theorem dX4_areSafe_5 : decode cX4_areSafe 5 = .ok (.aload_n 2, 1) := by decide +kernel
theorem dX4_areSafe_6 : decode cX4_areSafe 6 = .ok (.invokevirtual 204, 3) := by decide +kernel
theorem dX4_areSafe_9 : decode cX4_areSafe 9 = .ok (.iconst (-1), 1) := by decide +kernel
theorem dX4_areSafe_10 : decode cX4_areSafe 10 = .ok (.ixor, 1) := by decide +kernel
theorem dX4_areSafe_11 : decode cX4_areSafe 11 = .ok (.iand, 1) := by decide +kernel
theorem dX4_areSafe_12 : decode cX4_areSafe 12 = .ok (.ifCond .ne 20, 3) := by decide +kernel
theorem dX4_areSafe_15 : decode cX4_areSafe 15 = .ok (.iload_n 1, 1) := by decide +kernel
theorem dX4_areSafe_16 : decode cX4_areSafe 16 = .ok (.aload_n 0, 1) := by decide +kernel
theorem dX4_areSafe_17 : decode cX4_areSafe 17 = .ok (.getfield 10, 3) := by decide +kernel
theorem dX4_areSafe_20 : decode cX4_areSafe 20 = .ok (.aload_n 2, 1) := by decide +kernel
theorem dX4_areSafe_21 : decode cX4_areSafe 21 = .ok (.invokevirtual 197, 3) := by decide +kernel
theorem dX4_areSafe_24 : decode cX4_areSafe 24 = .ok (.iand, 1) := by decide +kernel
theorem dX4_areSafe_25 : decode cX4_areSafe 25 = .ok (.ifCond .ne 7, 3) := by decide +kernel
theorem dX4_areSafe_28 : decode cX4_areSafe 28 = .ok (.iconst 1, 1) := by decide +kernel
theorem dX4_areSafe_29 : decode cX4_areSafe 29 = .ok (.goto 4, 3) := by decide +kernel
theorem dX4_areSafe_32 : decode cX4_areSafe 32 = .ok (.iconst 0, 1) := by decide +kernel
theorem dX4_areSafe_33 : decode cX4_areSafe 33 = .ok (.ireturn, 1) := by decide +kernel
set_option maxRecDepth 20000 in
theorem ggX4_doAndLog_X4_kindOf : GoodIn wsX4_doAndLog wsX4_kindOf := goodIn_r _ [6] (by decide +kernel) (by decide +kernel)
set_option maxRecDepth 20000 in
theorem gX4_doAndLog_X4_kindOf : GoodIn wsX4_doAndLog (va_wsS RX4 109 yX4_kindOf wsX4_kindOf) := goodIn_app (goodIn_of _ (by decide +kernel)) ggX4_doAndLog_X4_kindOf
set_option maxRecDepth 20000 in
theorem ggX4_doAndLog_X4_whatOf : GoodIn wsX4_doAndLog wsX4_whatOf := goodIn_r _ [9] (by decide +kernel) (by decide +kernel)
set_option maxRecDepth 20000 in
theorem gX4_doAndLog_X4_whatOf : GoodIn wsX4_doAndLog (va_wsS RX4 112 yX4_whatOf wsX4_whatOf) := goodIn_app (goodIn_of _ (by decide +kernel)) ggX4_doAndLog_X4_whatOf
set_option maxRecDepth 20000 in
theorem ggX4_doAndLog_X4_reasonIn : GoodIn wsX4_doAndLog wsX4_reasonIn := goodIn_r _ [13, 14, 15, 16, 17, 18, 5, 19, 20, 21, 22, 23, 24, 25, 26, 27, 28, 29, 30, 31, 32, 33, 34, 35, 36, 37, 38, 39, 40, 41, 42, 43, 44, 45, 46, 47, 48, 49, 50, 51, 52, 53, 54, 55, 56, 57, 58, 59, 60, 61, 62, 63, 64, 65, 66, 67, 68, 69, 70, 71, 72, 73, 74, 75, 76, 77, 78, 79, 80, 81, 82, 83, 84, 85, 86, 87, 88, 89, 90, 91, 92, 93, 94, 95, 96, 97, 98, 99, 100, 101, 102, 103, 104, 105, 106, 107, 108, 109, 110, 111, 112, 120, 121, 122, 123, 124, 125, 126, 127, 128, 129, 130, 131, 132, 133, 134, 135, 136, 137] (by decide +kernel) (by decide +kernel)
set_option maxRecDepth 20000 in
theorem gX4_doAndLog_X4_reasonIn : GoodIn wsX4_doAndLog (wsV RX4 97 RX4 yX4_reasonIn wsX4_reasonIn) := goodIn_app (goodIn_of _ (by decide +kernel)) ggX4_doAndLog_X4_reasonIn
set_option maxRecDepth 20000 in
theorem ggX4_doAndLog_X3_flip : GoodIn wsX4_doAndLog wsX3_flip := goodIn_r _ [64, 32, 33, 34, 133, 134, 135] (by decide +kernel) (by decide +kernel)
set_option maxRecDepth 20000 in
theorem gX4_doAndLog_X3_flip : GoodIn wsX4_doAndLog (wsV RX4 115 RX3 yX3_flip wsX3_flip) := goodIn_app (goodIn_of _ (by decide +kernel)) ggX4_doAndLog_X3_flip
set_option maxRecDepth 20000 in
theorem ggX4_doAndLog_X0_append : GoodIn wsX4_doAndLog wsX0_append := goodIn_r _ [117, 118, 119, 138, 139] (by decide +kernel) (by decide +kernel)
set_option maxRecDepth 20000 in
theorem gX4_doAndLog_X0_append : GoodIn wsX4_doAndLog (wsV RX4 131 RX0 yX0_append wsX0_append) := goodIn_app (goodIn_of _ (by decide +kernel)) ggX4_doAndLog_X0_append
theorem dX4_doAndLog_0 : decode cX4_doAndLog 0 = .ok (.aload_n 0, 1) := by decide +kernel
theorem dX4_doAndLog_1 : decode cX4_doAndLog 1 = .ok (.aload_n 0, 1) := by decide +kernel
theorem dX4_doAndLog_2 : decode cX4_doAndLog 2 = .ok (.getfield 19, 3) := by decide +kernel
theorem dX4_doAndLog_5 : decode cX4_doAndLog 5 = .ok (.iload_n 1, 1) := by decide +kernel
theorem dX4_doAndLog_6 : decode cX4_doAndLog 6 = .ok (.invokestatic 109, 3) := by decide +kernel
theorem dX4_doAndLog_9 : decode cX4_doAndLog 9 = .ok (.iload_n 1, 1) := by decide +kernel
theorem dX4_doAndLog_10 : decode cX4_doAndLog 10 = .ok (.invokestatic 112, 3) := by decide +kernel
theorem dX4_doAndLog_13 : decode cX4_doAndLog 13 = .ok (.invokevirtual 97, 3) := by decide +kernel
theorem dX4_doAndLog_16 : decode cX4_doAndLog 16 = .ok (.istore_n 2, 1) := by decide +kernel
theorem dX4_doAndLog_17 : decode cX4_doAndLog 17 = .ok (.iload_n 2, 1) := by decide +kernel
theorem dX4_doAndLog_18 : decode cX4_doAndLog 18 = .ok (.ifCond .ne 26, 3) := by decide +kernel
theorem dX4_doAndLog_21 : decode cX4_doAndLog 21 = .ok (.aload_n 0, 1) := by decide +kernel
theorem dX4_doAndLog_22 : decode cX4_doAndLog 22 = .ok (.getfield 19, 3) := by decide +kernel
theorem dX4_doAndLog_25 : decode cX4_doAndLog 25 = .ok (.iload_n 1, 1) := by decide +kernel
theorem dX4_doAndLog_26 : decode cX4_doAndLog 26 = .ok (.invokestatic 109, 3) := by decide +kernel
theorem dX4_doAndLog_29 : decode cX4_doAndLog 29 = .ok (.iload_n 1, 1) := by decide +kernel
theorem dX4_doAndLog_30 : decode cX4_doAndLog 30 = .ok (.invokestatic 112, 3) := by decide +kernel
theorem dX4_doAndLog_33 : decode cX4_doAndLog 33 = .ok (.invokevirtual 115, 3) := by decide +kernel
theorem dX4_doAndLog_36 : decode cX4_doAndLog 36 = .ok (.aload_n 0, 1) := by decide +kernel
theorem dX4_doAndLog_37 : decode cX4_doAndLog 37 = .ok (.getfield 28, 3) := by decide +kernel
theorem dX4_doAndLog_40 : decode cX4_doAndLog 40 = .ok (.iload_n 1, 1) := by decide +kernel
theorem dX4_doAndLog_41 : decode cX4_doAndLog 41 = .ok (.invokevirtual 131, 3) := by decide +kernel
theorem dX4_doAndLog_44 : decode cX4_doAndLog 44 = .ok (.iload_n 2, 1) := by decide +kernel
theorem dX4_doAndLog_45 : decode cX4_doAndLog 45 = .ok (.ireturn, 1) := by decide +kernel
theorem dX4_isOfSwitch_0 : decode cX4_isOfSwitch 0 = .ok (.iload_n 0, 1) := by decide +kernel
theorem dX4_isOfSwitch_1 : decode cX4_isOfSwitch 1 = .ok (.ifCond .eq 8, 3) := by decide +kernel
theorem dX4_isOfSwitch_4 : decode cX4_isOfSwitch 4 = .ok (.iload_n 0, 1) := by decide +kernel
theorem dX4_isOfSwitch_5 : decode cX4_isOfSwitch 5 = .ok (.iconst 1, 1) := by decide +kernel
theorem dX4_isOfSwitch_6 : decode cX4_isOfSwitch 6 = .ok (.if_icmp .ne 7, 3) := by decide +kernel
theorem dX4_isOfSwitch_9 : decode cX4_isOfSwitch 9 = .ok (.iconst 1, 1) := by decide +kernel
theorem dX4_isOfSwitch_10 : decode cX4_isOfSwitch 10 = .ok (.goto 4, 3) := by decide +kernel
theorem dX4_isOfSwitch_13 : decode cX4_isOfSwitch 13 = .ok (.iconst 0, 1) := by decide +kernel
theorem dX4_isOfSwitch_14 : decode cX4_isOfSwitch 14 = .ok (.ireturn, 1) := by decide +kernel
theorem dX4_turnsOn_0 : decode cX4_turnsOn 0 = .ok (.iload_n 0, 1) := by decide +kernel
theorem dX4_turnsOn_1 : decode cX4_turnsOn 1 = .ok (.iconst 1, 1) := by decide +kernel
theorem dX4_turnsOn_2 : decode cX4_turnsOn 2 = .ok (.if_icmp .eq 13, 3) := by decide +kernel
theorem dX4_turnsOn_5 : decode cX4_turnsOn 5 = .ok (.iload_n 0, 1) := by decide +kernel
theorem dX4_turnsOn_6 : decode cX4_turnsOn 6 = .ok (.iconst 2, 1) := by decide +kernel
theorem dX4_turnsOn_7 : decode cX4_turnsOn 7 = .ok (.if_icmp .eq 8, 3) := by decide +kernel
theorem dX4_turnsOn_10 : decode cX4_turnsOn 10 = .ok (.iload_n 0, 1) := by decide +kernel
theorem dX4_turnsOn_11 : decode cX4_turnsOn 11 = .ok (.iconst 4, 1) := by decide +kernel
theorem dX4_turnsOn_12 : decode cX4_turnsOn 12 = .ok (.if_icmp .ne 7, 3) := by decide +kernel
theorem dX4_turnsOn_15 : decode cX4_turnsOn 15 = .ok (.iconst 1, 1) := by decide +kernel
theorem dX4_turnsOn_16 : decode cX4_turnsOn 16 = .ok (.goto 4, 3) := by decide +kernel
theorem dX4_turnsOn_19 : decode cX4_turnsOn 19 = .ok (.iconst 0, 1) := by decide +kernel
theorem dX4_turnsOn_20 : decode cX4_turnsOn 20 = .ok (.ireturn, 1) := by decide +kernel
theorem dX4_actOf_0 : decode cX4_actOf 0 = .ok (.bipush 100, 2) := by decide +kernel
theorem dX4_actOf_2 : decode cX4_actOf 2 = .ok (.iload_n 0, 1) := by decide +kernel
theorem dX4_actOf_3 : decode cX4_actOf 3 = .ok (.imul, 1) := by decide +kernel
theorem dX4_actOf_4 : decode cX4_actOf 4 = .ok (.iload_n 1, 1) := by decide +kernel
theorem dX4_actOf_5 : decode cX4_actOf 5 = .ok (.iadd, 1) := by decide +kernel
theorem dX4_actOf_6 : decode cX4_actOf 6 = .ok (.ireturn, 1) := by decide +kernel
theorem dX4_kindOf_0 : decode cX4_kindOf 0 = .ok (.iload_n 0, 1) := by decide +kernel
theorem dX4_kindOf_1 : decode cX4_kindOf 1 = .ok (.bipush 100, 2) := by decide +kernel
theorem dX4_kindOf_3 : decode cX4_kindOf 3 = .ok (.idiv, 1) := by decide +kernel
theorem dX4_kindOf_4 : decode cX4_kindOf 4 = .ok (.ireturn, 1) := by decide +kernel
theorem dX4_whatOf_0 : decode cX4_whatOf 0 = .ok (.iload_n 0, 1) := by decide +kernel
theorem dX4_whatOf_1 : decode cX4_whatOf 1 = .ok (.bipush 100, 2) := by decide +kernel
theorem dX4_whatOf_3 : decode cX4_whatOf 3 = .ok (.irem, 1) := by decide +kernel
theorem dX4_whatOf_4 : decode cX4_whatOf 4 = .ok (.ireturn, 1) := by decide +kernel
set_option maxRecDepth 20000 in
theorem ggX4_oppositeOf_X4_kindOf : GoodIn wsX4_oppositeOf wsX4_kindOf := goodIn_r _ [4] (by decide +kernel) (by decide +kernel)
set_option maxRecDepth 20000 in
theorem gX4_oppositeOf_X4_kindOf : GoodIn wsX4_oppositeOf (va_wsS RX4 109 yX4_kindOf wsX4_kindOf) := goodIn_app (goodIn_of _ (by decide +kernel)) ggX4_oppositeOf_X4_kindOf
set_option maxRecDepth 20000 in
theorem ggX4_oppositeOf_X4_whatOf : GoodIn wsX4_oppositeOf wsX4_whatOf := goodIn_r _ [7] (by decide +kernel) (by decide +kernel)
set_option maxRecDepth 20000 in
theorem gX4_oppositeOf_X4_whatOf : GoodIn wsX4_oppositeOf (va_wsS RX4 112 yX4_whatOf wsX4_whatOf) := goodIn_app (goodIn_of _ (by decide +kernel)) ggX4_oppositeOf_X4_whatOf
set_option maxRecDepth 20000 in
theorem ggX4_oppositeOf_X4_actOf : GoodIn wsX4_oppositeOf wsX4_actOf := goodIn_r _ [10] (by decide +kernel) (by decide +kernel)
set_option maxRecDepth 20000 in
theorem gX4_oppositeOf_X4_actOf : GoodIn wsX4_oppositeOf (va_wsS RX4 89 yX4_actOf wsX4_actOf) := goodIn_app (goodIn_of _ (by decide +kernel)) ggX4_oppositeOf_X4_actOf
theorem dX4_oppositeOf_0 : decode cX4_oppositeOf 0 = .ok (.iload_n 0, 1) := by decide +kernel
theorem dX4_oppositeOf_1 : decode cX4_oppositeOf 1 = .ok (.invokestatic 109, 3) := by decide +kernel
theorem dX4_oppositeOf_4 : decode cX4_oppositeOf 4 = .ok (.iconst 1, 1) := by decide +kernel
theorem dX4_oppositeOf_5 : decode cX4_oppositeOf 5 = .ok (.ixor, 1) := by decide +kernel
theorem dX4_oppositeOf_6 : decode cX4_oppositeOf 6 = .ok (.iload_n 0, 1) := by decide +kernel
theorem dX4_oppositeOf_7 : decode cX4_oppositeOf 7 = .ok (.invokestatic 112, 3) := by decide +kernel
theorem dX4_oppositeOf_10 : decode cX4_oppositeOf 10 = .ok (.invokestatic 89, 3) := by decide +kernel
theorem dX4_oppositeOf_13 : decode cX4_oppositeOf 13 = .ok (.ireturn, 1) := by decide +kernel
