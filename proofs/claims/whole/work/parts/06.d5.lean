theorem dX5_init_0 : decode cX5_init 0 = .ok (.aload_n 0, 1) := by decide +kernel
theorem dX5_init_1 : decode cX5_init 1 = .ok (.invokespecial 1, 3) := by decide +kernel
theorem dX5_init_4 : decode cX5_init 4 = .ok (.aload_n 0, 1) := by decide +kernel
theorem dX5_init_5 : decode cX5_init 5 = .ok (.bipush 24, 2) := by decide +kernel
theorem dX5_init_7 : decode cX5_init 7 = .ok (.newarray .int, 2) := by decide +kernel
theorem dX5_init_9 : decode cX5_init 9 = .ok (.putfield 7, 3) := by decide +kernel
theorem dX5_init_12 : decode cX5_init 12 = .ok (.aload_n 0, 1) := by decide +kernel
theorem dX5_init_13 : decode cX5_init 13 = .ok (.bipush 24, 2) := by decide +kernel
theorem dX5_init_15 : decode cX5_init 15 = .ok (.newarray .int, 2) := by decide +kernel
theorem dX5_init_17 : decode cX5_init 17 = .ok (.putfield 13, 3) := by decide +kernel
theorem dX5_init_20 : decode cX5_init 20 = .ok (.aload_n 0, 1) := by decide +kernel
theorem dX5_init_21 : decode cX5_init 21 = .ok (.bipush 24, 2) := by decide +kernel
theorem dX5_init_23 : decode cX5_init 23 = .ok (.newarray .boolean, 2) := by decide +kernel
theorem dX5_init_25 : decode cX5_init 25 = .ok (.putfield 16, 3) := by decide +kernel
theorem dX5_init_28 : decode cX5_init 28 = .ok (.aload_n 0, 1) := by decide +kernel
theorem dX5_init_29 : decode cX5_init 29 = .ok (.sipush 200, 3) := by decide +kernel
theorem dX5_init_32 : decode cX5_init 32 = .ok (.newarray .int, 2) := by decide +kernel
theorem dX5_init_34 : decode cX5_init 34 = .ok (.putfield 20, 3) := by decide +kernel
theorem dX5_init_37 : decode cX5_init 37 = .ok (.aload_n 0, 1) := by decide +kernel
theorem dX5_init_38 : decode cX5_init 38 = .ok (.bipush 30, 2) := by decide +kernel
theorem dX5_init_40 : decode cX5_init 40 = .ok (.newarray .int, 2) := by decide +kernel
theorem dX5_init_42 : decode cX5_init 42 = .ok (.putfield 23, 3) := by decide +kernel
theorem dX5_init_45 : decode cX5_init 45 = .ok (.aload_n 0, 1) := by decide +kernel
theorem dX5_init_46 : decode cX5_init 46 = .ok (.bipush 10, 2) := by decide +kernel
theorem dX5_init_48 : decode cX5_init 48 = .ok (.newarray .int, 2) := by decide +kernel
theorem dX5_init_50 : decode cX5_init 50 = .ok (.putfield 26, 3) := by decide +kernel
theorem dX5_init_53 : decode cX5_init 53 = .ok (.aload_n 0, 1) := by decide +kernel
theorem dX5_init_54 : decode cX5_init 54 = .ok (.bipush 10, 2) := by decide +kernel
theorem dX5_init_56 : decode cX5_init 56 = .ok (.newarray .boolean, 2) := by decide +kernel
theorem dX5_init_58 : decode cX5_init 58 = .ok (.putfield 29, 3) := by decide +kernel
theorem dX5_init_61 : decode cX5_init 61 = .ok (.aload_n 0, 1) := by decide +kernel
theorem dX5_init_62 : decode cX5_init 62 = .ok (.bipush 16, 2) := by decide +kernel
theorem dX5_init_64 : decode cX5_init 64 = .ok (.newarray .int, 2) := by decide +kernel
theorem dX5_init_66 : decode cX5_init 66 = .ok (.putfield 32, 3) := by decide +kernel
theorem dX5_init_69 : decode cX5_init 69 = .ok (.return_, 1) := by decide +kernel
theorem dX5_thrown_0 : decode cX5_thrown 0 = .ok (.aload_n 0, 1) := by decide +kernel
theorem dX5_thrown_1 : decode cX5_thrown 1 = .ok (.getfield 35, 3) := by decide +kernel
theorem dX5_thrown_4 : decode cX5_thrown 4 = .ok (.ireturn, 1) := by decide +kernel
theorem dX5_in_0 : decode cX5_in 0 = .ok (.iload_n 0, 1) := by decide +kernel
theorem dX5_in_1 : decode cX5_in 1 = .ok (.iload_n 1, 1) := by decide +kernel
theorem dX5_in_2 : decode cX5_in 2 = .ok (.if_icmp .lt 12, 3) := by decide +kernel
theorem dX5_in_5 : decode cX5_in 5 = .ok (.iload_n 0, 1) := by decide +kernel
theorem dX5_in_6 : decode cX5_in 6 = .ok (.iload_n 2, 1) := by decide +kernel
theorem dX5_in_7 : decode cX5_in 7 = .ok (.if_icmp .gt 7, 3) := by decide +kernel
theorem dX5_in_10 : decode cX5_in 10 = .ok (.iconst 1, 1) := by decide +kernel
theorem dX5_in_11 : decode cX5_in 11 = .ok (.goto 4, 3) := by decide +kernel
theorem dX5_in_14 : decode cX5_in 14 = .ok (.iconst 0, 1) := by decide +kernel
theorem dX5_in_15 : decode cX5_in 15 = .ok (.ireturn, 1) := by decide +kernel
theorem dX5_has_0 : decode cX5_has 0 = .ok (.iload_n 0, 1) := by decide +kernel
theorem dX5_has_1 : decode cX5_has 1 = .ok (.iload_n 1, 1) := by decide +kernel
theorem dX5_has_2 : decode cX5_has 2 = .ok (.ishr, 1) := by decide +kernel
theorem dX5_has_3 : decode cX5_has 3 = .ok (.iconst 1, 1) := by decide +kernel
theorem dX5_has_4 : decode cX5_has 4 = .ok (.iand, 1) := by decide +kernel
theorem dX5_has_5 : decode cX5_has 5 = .ok (.iconst 1, 1) := by decide +kernel
theorem dX5_has_6 : decode cX5_has 6 = .ok (.if_icmp .ne 7, 3) := by decide +kernel
theorem dX5_has_9 : decode cX5_has 9 = .ok (.iconst 1, 1) := by decide +kernel
theorem dX5_has_10 : decode cX5_has 10 = .ok (.goto 4, 3) := by decide +kernel
theorem dX5_has_13 : decode cX5_has 13 = .ok (.iconst 0, 1) := by decide +kernel
theorem dX5_has_14 : decode cX5_has 14 = .ok (.ireturn, 1) := by decide +kernel
set_option maxRecDepth 20000 in
theorem ggX5_isNode_X5_in : GoodIn wsX5_isNode wsX5_in := goodIn_r _ [5] (by decide +kernel) (by decide +kernel)
set_option maxRecDepth 20000 in
theorem gX5_isNode_X5_in : GoodIn wsX5_isNode (va_wsS RX5 42 yX5_in wsX5_in) := goodIn_app (goodIn_of _ (by decide +kernel)) ggX5_isNode_X5_in
theorem dX5_isNode_0 : decode cX5_isNode 0 = .ok (.iload_n 1, 1) := by decide +kernel
theorem dX5_isNode_1 : decode cX5_isNode 1 = .ok (.iconst 0, 1) := by decide +kernel
theorem dX5_isNode_2 : decode cX5_isNode 2 = .ok (.aload_n 0, 1) := by decide +kernel
theorem dX5_isNode_3 : decode cX5_isNode 3 = .ok (.getfield 39, 3) := by decide +kernel
theorem dX5_isNode_6 : decode cX5_isNode 6 = .ok (.iconst 1, 1) := by decide +kernel
theorem dX5_isNode_7 : decode cX5_isNode 7 = .ok (.isub, 1) := by decide +kernel
theorem dX5_isNode_8 : decode cX5_isNode 8 = .ok (.invokestatic 42, 3) := by decide +kernel
theorem dX5_isNode_11 : decode cX5_isNode 11 = .ok (.ireturn, 1) := by decide +kernel
set_option maxRecDepth 20000 in
theorem ggX5_isSwitch_X5_in : GoodIn wsX5_isSwitch wsX5_in := goodIn_r _ [5] (by decide +kernel) (by decide +kernel)
set_option maxRecDepth 20000 in
theorem gX5_isSwitch_X5_in : GoodIn wsX5_isSwitch (va_wsS RX5 42 yX5_in wsX5_in) := goodIn_app (goodIn_of _ (by decide +kernel)) ggX5_isSwitch_X5_in
theorem dX5_isSwitch_0 : decode cX5_isSwitch 0 = .ok (.iload_n 1, 1) := by decide +kernel
theorem dX5_isSwitch_1 : decode cX5_isSwitch 1 = .ok (.iconst 0, 1) := by decide +kernel
theorem dX5_isSwitch_2 : decode cX5_isSwitch 2 = .ok (.aload_n 0, 1) := by decide +kernel
theorem dX5_isSwitch_3 : decode cX5_isSwitch 3 = .ok (.getfield 46, 3) := by decide +kernel
theorem dX5_isSwitch_6 : decode cX5_isSwitch 6 = .ok (.iconst 1, 1) := by decide +kernel
theorem dX5_isSwitch_7 : decode cX5_isSwitch 7 = .ok (.isub, 1) := by decide +kernel
theorem dX5_isSwitch_8 : decode cX5_isSwitch 8 = .ok (.invokestatic 42, 3) := by decide +kernel
theorem dX5_isSwitch_11 : decode cX5_isSwitch 11 = .ok (.ireturn, 1) := by decide +kernel
theorem dX5_addNode_0 : decode cX5_addNode 0 = .ok (.aload_n 0, 1) := by decide +kernel
theorem dX5_addNode_1 : decode cX5_addNode 1 = .ok (.aload_n 0, 1) := by decide +kernel
theorem dX5_addNode_2 : decode cX5_addNode 2 = .ok (.getfield 39, 3) := by decide +kernel
theorem dX5_addNode_5 : decode cX5_addNode 5 = .ok (.bipush 16, 2) := by decide +kernel
theorem dX5_addNode_7 : decode cX5_addNode 7 = .ok (.if_icmp .ne 7, 3) := by decide +kernel
theorem dX5_addNode_10 : decode cX5_addNode 10 = .ok (.iconst 1, 1) := by decide +kernel
theorem dX5_addNode_11 : decode cX5_addNode 11 = .ok (.goto 4, 3) := by decide +kernel
theorem dX5_addNode_14 : decode cX5_addNode 14 = .ok (.iconst 0, 1) := by decide +kernel
theorem dX5_addNode_15 : decode cX5_addNode 15 = .ok (.putfield 35, 3) := by decide +kernel
theorem dX5_addNode_18 : decode cX5_addNode 18 = .ok (.aload_n 0, 1) := by decide +kernel
theorem dX5_addNode_19 : decode cX5_addNode 19 = .ok (.getfield 35, 3) := by decide +kernel
theorem dX5_addNode_22 : decode cX5_addNode 22 = .ok (.ifCond .le 5, 3) := by decide +kernel
theorem dX5_addNode_25 : decode cX5_addNode 25 = .ok (.iconst 0, 1) := by decide +kernel
theorem dX5_addNode_26 : decode cX5_addNode 26 = .ok (.ireturn, 1) := by decide +kernel
theorem dX5_addNode_27 : decode cX5_addNode 27 = .ok (.aload_n 0, 1) := by decide +kernel
theorem dX5_addNode_28 : decode cX5_addNode 28 = .ok (.dup, 1) := by decide +kernel
theorem dX5_addNode_29 : decode cX5_addNode 29 = .ok (.getfield 49, 3) := by decide +kernel
theorem dX5_addNode_32 : decode cX5_addNode 32 = .ok (.iload_n 1, 1) := by decide +kernel
theorem dX5_addNode_33 : decode cX5_addNode 33 = .ok (.ifCond .eq 12, 3) := by decide +kernel
theorem dX5_addNode_36 : decode cX5_addNode 36 = .ok (.iconst 1, 1) := by decide +kernel
theorem dX5_addNode_37 : decode cX5_addNode 37 = .ok (.aload_n 0, 1) := by decide +kernel
theorem dX5_addNode_38 : decode cX5_addNode 38 = .ok (.getfield 39, 3) := by decide +kernel
theorem dX5_addNode_41 : decode cX5_addNode 41 = .ok (.ishl, 1) := by decide +kernel
theorem dX5_addNode_42 : decode cX5_addNode 42 = .ok (.goto 4, 3) := by decide +kernel
theorem dX5_addNode_45 : decode cX5_addNode 45 = .ok (.iconst 0, 1) := by decide +kernel
theorem dX5_addNode_46 : decode cX5_addNode 46 = .ok (.ior, 1) := by decide +kernel
theorem dX5_addNode_47 : decode cX5_addNode 47 = .ok (.putfield 49, 3) := by decide +kernel
theorem dX5_addNode_50 : decode cX5_addNode 50 = .ok (.aload_n 0, 1) := by decide +kernel
theorem dX5_addNode_51 : decode cX5_addNode 51 = .ok (.dup, 1) := by decide +kernel
theorem dX5_addNode_52 : decode cX5_addNode 52 = .ok (.getfield 52, 3) := by decide +kernel
theorem dX5_addNode_55 : decode cX5_addNode 55 = .ok (.iload_n 2, 1) := by decide +kernel
theorem dX5_addNode_56 : decode cX5_addNode 56 = .ok (.ifCond .eq 12, 3) := by decide +kernel
theorem dX5_addNode_59 : decode cX5_addNode 59 = .ok (.iconst 1, 1) := by decide +kernel
theorem dX5_addNode_60 : decode cX5_addNode 60 = .ok (.aload_n 0, 1) := by decide +kernel
theorem dX5_addNode_61 : decode cX5_addNode 61 = .ok (.getfield 39, 3) := by decide +kernel
theorem dX5_addNode_64 : decode cX5_addNode 64 = .ok (.ishl, 1) := by decide +kernel
theorem dX5_addNode_65 : decode cX5_addNode 65 = .ok (.goto 4, 3) := by decide +kernel
theorem dX5_addNode_68 : decode cX5_addNode 68 = .ok (.iconst 0, 1) := by decide +kernel
theorem dX5_addNode_69 : decode cX5_addNode 69 = .ok (.ior, 1) := by decide +kernel
theorem dX5_addNode_70 : decode cX5_addNode 70 = .ok (.putfield 52, 3) := by decide +kernel
theorem dX5_addNode_73 : decode cX5_addNode 73 = .ok (.aload_n 0, 1) := by decide +kernel
theorem dX5_addNode_74 : decode cX5_addNode 74 = .ok (.dup, 1) := by decide +kernel
theorem dX5_addNode_75 : decode cX5_addNode 75 = .ok (.getfield 39, 3) := by decide +kernel
theorem dX5_addNode_78 : decode cX5_addNode 78 = .ok (.iconst 1, 1) := by decide +kernel
theorem dX5_addNode_79 : decode cX5_addNode 79 = .ok (.iadd, 1) := by decide +kernel
theorem dX5_addNode_80 : decode cX5_addNode 80 = .ok (.putfield 39, 3) := by decide +kernel
theorem dX5_addNode_83 : decode cX5_addNode 83 = .ok (.aload_n 0, 1) := by decide +kernel
theorem dX5_addNode_84 : decode cX5_addNode 84 = .ok (.getfield 39, 3) := by decide +kernel
theorem dX5_addNode_87 : decode cX5_addNode 87 = .ok (.iconst 1, 1) := by decide +kernel
theorem dX5_addNode_88 : decode cX5_addNode 88 = .ok (.isub, 1) := by decide +kernel
theorem dX5_addNode_89 : decode cX5_addNode 89 = .ok (.ireturn, 1) := by decide +kernel
set_option maxRecDepth 20000 in
theorem ggX5_addSwitch_X5_isNode : GoodIn wsX5_addSwitch wsX5_isNode := goodIn_r _ [10, 11, 12, 13, 9, 14, 15, 16, 17, 18, 19, 20, 21, 22, 23, 24, 25, 26, 27, 28, 29, 30, 31, 32, 33] (by decide +kernel) (by decide +kernel)
set_option maxRecDepth 20000 in
theorem gX5_addSwitch_X5_isNode : GoodIn wsX5_addSwitch (wsV RX5 55 RX5 yX5_isNode wsX5_isNode) := goodIn_app (goodIn_of _ (by decide +kernel)) ggX5_addSwitch_X5_isNode
theorem dX5_addSwitch_0 : decode cX5_addSwitch 0 = .ok (.aload_n 0, 1) := by decide +kernel
theorem dX5_addSwitch_1 : decode cX5_addSwitch 1 = .ok (.aload_n 0, 1) := by decide +kernel
theorem dX5_addSwitch_2 : decode cX5_addSwitch 2 = .ok (.iload_n 1, 1) := by decide +kernel
theorem dX5_addSwitch_3 : decode cX5_addSwitch 3 = .ok (.invokevirtual 55, 3) := by decide +kernel
theorem dX5_addSwitch_6 : decode cX5_addSwitch 6 = .ok (.ifCond .eq 11, 3) := by decide +kernel
theorem dX5_addSwitch_9 : decode cX5_addSwitch 9 = .ok (.aload_n 0, 1) := by decide +kernel
theorem dX5_addSwitch_10 : decode cX5_addSwitch 10 = .ok (.iload_n 2, 1) := by decide +kernel
theorem dX5_addSwitch_11 : decode cX5_addSwitch 11 = .ok (.invokevirtual 55, 3) := by decide +kernel
theorem dX5_addSwitch_14 : decode cX5_addSwitch 14 = .ok (.ifCond .ne 7, 3) := by decide +kernel
theorem dX5_addSwitch_17 : decode cX5_addSwitch 17 = .ok (.iconst 1, 1) := by decide +kernel
theorem dX5_addSwitch_18 : decode cX5_addSwitch 18 = .ok (.goto 26, 3) := by decide +kernel
theorem dX5_addSwitch_21 : decode cX5_addSwitch 21 = .ok (.iload_n 1, 1) := by decide +kernel
theorem dX5_addSwitch_22 : decode cX5_addSwitch 22 = .ok (.iload_n 2, 1) := by decide +kernel
theorem dX5_addSwitch_23 : decode cX5_addSwitch 23 = .ok (.if_icmp .ne 7, 3) := by decide +kernel
theorem dX5_addSwitch_26 : decode cX5_addSwitch 26 = .ok (.iconst 2, 1) := by decide +kernel
theorem dX5_addSwitch_27 : decode cX5_addSwitch 27 = .ok (.goto 17, 3) := by decide +kernel
theorem dX5_addSwitch_30 : decode cX5_addSwitch 30 = .ok (.aload_n 0, 1) := by decide +kernel
theorem dX5_addSwitch_31 : decode cX5_addSwitch 31 = .ok (.getfield 46, 3) := by decide +kernel
theorem dX5_addSwitch_34 : decode cX5_addSwitch 34 = .ok (.bipush 24, 2) := by decide +kernel
theorem dX5_addSwitch_36 : decode cX5_addSwitch 36 = .ok (.if_icmp .ne 7, 3) := by decide +kernel
theorem dX5_addSwitch_39 : decode cX5_addSwitch 39 = .ok (.iconst 3, 1) := by decide +kernel
theorem dX5_addSwitch_40 : decode cX5_addSwitch 40 = .ok (.goto 4, 3) := by decide +kernel
theorem dX5_addSwitch_43 : decode cX5_addSwitch 43 = .ok (.iconst 0, 1) := by decide +kernel
theorem dX5_addSwitch_44 : decode cX5_addSwitch 44 = .ok (.putfield 35, 3) := by decide +kernel
theorem dX5_addSwitch_47 : decode cX5_addSwitch 47 = .ok (.aload_n 0, 1) := by decide +kernel
theorem dX5_addSwitch_48 : decode cX5_addSwitch 48 = .ok (.getfield 35, 3) := by decide +kernel
theorem dX5_addSwitch_51 : decode cX5_addSwitch 51 = .ok (.ifCond .le 5, 3) := by decide +kernel
theorem dX5_addSwitch_54 : decode cX5_addSwitch 54 = .ok (.iconst 0, 1) := by decide +kernel
theorem dX5_addSwitch_55 : decode cX5_addSwitch 55 = .ok (.ireturn, 1) := by decide +kernel
theorem dX5_addSwitch_56 : decode cX5_addSwitch 56 = .ok (.aload_n 0, 1) := by decide +kernel
theorem dX5_addSwitch_57 : decode cX5_addSwitch 57 = .ok (.getfield 7, 3) := by decide +kernel
theorem dX5_addSwitch_60 : decode cX5_addSwitch 60 = .ok (.aload_n 0, 1) := by decide +kernel
theorem dX5_addSwitch_61 : decode cX5_addSwitch 61 = .ok (.getfield 46, 3) := by decide +kernel
theorem dX5_addSwitch_64 : decode cX5_addSwitch 64 = .ok (.iload_n 1, 1) := by decide +kernel
theorem dX5_addSwitch_65 : decode cX5_addSwitch 65 = .ok (.iastore, 1) := by decide +kernel
theorem dX5_addSwitch_66 : decode cX5_addSwitch 66 = .ok (.aload_n 0, 1) := by decide +kernel
theorem dX5_addSwitch_67 : decode cX5_addSwitch 67 = .ok (.getfield 13, 3) := by decide +kernel
theorem dX5_addSwitch_70 : decode cX5_addSwitch 70 = .ok (.aload_n 0, 1) := by decide +kernel
theorem dX5_addSwitch_71 : decode cX5_addSwitch 71 = .ok (.getfield 46, 3) := by decide +kernel
theorem dX5_addSwitch_74 : decode cX5_addSwitch 74 = .ok (.iload_n 2, 1) := by decide +kernel
theorem dX5_addSwitch_75 : decode cX5_addSwitch 75 = .ok (.iastore, 1) := by decide +kernel
theorem dX5_addSwitch_76 : decode cX5_addSwitch 76 = .ok (.aload_n 0, 1) := by decide +kernel
theorem dX5_addSwitch_77 : decode cX5_addSwitch 77 = .ok (.getfield 16, 3) := by decide +kernel
theorem dX5_addSwitch_80 : decode cX5_addSwitch 80 = .ok (.aload_n 0, 1) := by decide +kernel
theorem dX5_addSwitch_81 : decode cX5_addSwitch 81 = .ok (.getfield 46, 3) := by decide +kernel
theorem dX5_addSwitch_84 : decode cX5_addSwitch 84 = .ok (.iload_n 3, 1) := by decide +kernel
theorem dX5_addSwitch_85 : decode cX5_addSwitch 85 = .ok (.bastore, 1) := by decide +kernel
theorem dX5_addSwitch_86 : decode cX5_addSwitch 86 = .ok (.aload_n 0, 1) := by decide +kernel
theorem dX5_addSwitch_87 : decode cX5_addSwitch 87 = .ok (.dup, 1) := by decide +kernel
theorem dX5_addSwitch_88 : decode cX5_addSwitch 88 = .ok (.getfield 46, 3) := by decide +kernel
theorem dX5_addSwitch_91 : decode cX5_addSwitch 91 = .ok (.iconst 1, 1) := by decide +kernel
theorem dX5_addSwitch_92 : decode cX5_addSwitch 92 = .ok (.iadd, 1) := by decide +kernel
theorem dX5_addSwitch_93 : decode cX5_addSwitch 93 = .ok (.putfield 46, 3) := by decide +kernel
theorem dX5_addSwitch_96 : decode cX5_addSwitch 96 = .ok (.aload_n 0, 1) := by decide +kernel
theorem dX5_addSwitch_97 : decode cX5_addSwitch 97 = .ok (.getfield 46, 3) := by decide +kernel
theorem dX5_addSwitch_100 : decode cX5_addSwitch 100 = .ok (.iconst 1, 1) := by decide +kernel
theorem dX5_addSwitch_101 : decode cX5_addSwitch 101 = .ok (.isub, 1) := by decide +kernel
theorem dX5_addSwitch_102 : decode cX5_addSwitch 102 = .ok (.ireturn, 1) := by decide +kernel
theorem dX5_nodes_0 : decode cX5_nodes 0 = .ok (.aload_n 0, 1) := by decide +kernel
theorem dX5_nodes_1 : decode cX5_nodes 1 = .ok (.iconst 0, 1) := by decide +kernel
theorem dX5_nodes_2 : decode cX5_nodes 2 = .ok (.putfield 35, 3) := by decide +kernel
theorem dX5_nodes_5 : decode cX5_nodes 5 = .ok (.aload_n 0, 1) := by decide +kernel
theorem dX5_nodes_6 : decode cX5_nodes 6 = .ok (.getfield 39, 3) := by decide +kernel
theorem dX5_nodes_9 : decode cX5_nodes 9 = .ok (.ireturn, 1) := by decide +kernel
theorem dX5_switches_0 : decode cX5_switches 0 = .ok (.aload_n 0, 1) := by decide +kernel
theorem dX5_switches_1 : decode cX5_switches 1 = .ok (.iconst 0, 1) := by decide +kernel
theorem dX5_switches_2 : decode cX5_switches 2 = .ok (.putfield 35, 3) := by decide +kernel
theorem dX5_switches_5 : decode cX5_switches 5 = .ok (.aload_n 0, 1) := by decide +kernel
theorem dX5_switches_6 : decode cX5_switches 6 = .ok (.getfield 46, 3) := by decide +kernel
theorem dX5_switches_9 : decode cX5_switches 9 = .ok (.ireturn, 1) := by decide +kernel
set_option maxRecDepth 20000 in
theorem ggX5_partOf_X5_has : GoodIn wsX5_partOf wsX5_has := goodIn_r _ [7] (by decide +kernel) (by decide +kernel)
set_option maxRecDepth 20000 in
theorem gX5_partOf_X5_has : GoodIn wsX5_partOf (va_wsS RX5 59 yX5_has wsX5_has) := goodIn_app (goodIn_of _ (by decide +kernel)) ggX5_partOf_X5_has
theorem dX5_partOf_0 : decode cX5_partOf 0 = .ok (.iconst 1, 1) := by decide +kernel
theorem dX5_partOf_1 : decode cX5_partOf 1 = .ok (.iload_n 1, 1) := by decide +kernel
theorem dX5_partOf_2 : decode cX5_partOf 2 = .ok (.ishl, 1) := by decide +kernel
theorem dX5_partOf_3 : decode cX5_partOf 3 = .ok (.istore_n 3, 1) := by decide +kernel
theorem dX5_partOf_4 : decode cX5_partOf 4 = .ok (.iconst 0, 1) := by decide +kernel
theorem dX5_partOf_5 : decode cX5_partOf 5 = .ok (.istore 4, 2) := by decide +kernel
theorem dX5_partOf_7 : decode cX5_partOf 7 = .ok (.iload_n 3, 1) := by decide +kernel
theorem dX5_partOf_8 : decode cX5_partOf 8 = .ok (.iload 4, 2) := by decide +kernel
theorem dX5_partOf_10 : decode cX5_partOf 10 = .ok (.if_icmp .eq 102, 3) := by decide +kernel
theorem dX5_partOf_13 : decode cX5_partOf 13 = .ok (.iload_n 3, 1) := by decide +kernel
theorem dX5_partOf_14 : decode cX5_partOf 14 = .ok (.istore 4, 2) := by decide +kernel
theorem dX5_partOf_16 : decode cX5_partOf 16 = .ok (.iconst 0, 1) := by decide +kernel
theorem dX5_partOf_17 : decode cX5_partOf 17 = .ok (.istore 5, 2) := by decide +kernel
theorem dX5_partOf_19 : decode cX5_partOf 19 = .ok (.iload 5, 2) := by decide +kernel
theorem dX5_partOf_21 : decode cX5_partOf 21 = .ok (.aload_n 0, 1) := by decide +kernel
theorem dX5_partOf_22 : decode cX5_partOf 22 = .ok (.getfield 46, 3) := by decide +kernel
theorem dX5_partOf_25 : decode cX5_partOf 25 = .ok (.if_icmp .ge 84, 3) := by decide +kernel
theorem dX5_partOf_28 : decode cX5_partOf 28 = .ok (.iload_n 3, 1) := by decide +kernel
theorem dX5_partOf_29 : decode cX5_partOf 29 = .ok (.aload_n 0, 1) := by decide +kernel
theorem dX5_partOf_30 : decode cX5_partOf 30 = .ok (.getfield 7, 3) := by decide +kernel
theorem dX5_partOf_33 : decode cX5_partOf 33 = .ok (.iload 5, 2) := by decide +kernel
theorem dX5_partOf_35 : decode cX5_partOf 35 = .ok (.iaload, 1) := by decide +kernel
theorem dX5_partOf_36 : decode cX5_partOf 36 = .ok (.invokestatic 59, 3) := by decide +kernel
theorem dX5_partOf_39 : decode cX5_partOf 39 = .ok (.ifCond .ne 17, 3) := by decide +kernel
theorem dX5_partOf_42 : decode cX5_partOf 42 = .ok (.iload_n 3, 1) := by decide +kernel
theorem dX5_partOf_43 : decode cX5_partOf 43 = .ok (.aload_n 0, 1) := by decide +kernel
theorem dX5_partOf_44 : decode cX5_partOf 44 = .ok (.getfield 13, 3) := by decide +kernel
theorem dX5_partOf_47 : decode cX5_partOf 47 = .ok (.iload 5, 2) := by decide +kernel
theorem dX5_partOf_49 : decode cX5_partOf 49 = .ok (.iaload, 1) := by decide +kernel
theorem dX5_partOf_50 : decode cX5_partOf 50 = .ok (.invokestatic 59, 3) := by decide +kernel
theorem dX5_partOf_53 : decode cX5_partOf 53 = .ok (.ifCond .eq 7, 3) := by decide +kernel
theorem dX5_partOf_56 : decode cX5_partOf 56 = .ok (.iconst 1, 1) := by decide +kernel
theorem dX5_partOf_57 : decode cX5_partOf 57 = .ok (.goto 4, 3) := by decide +kernel
theorem dX5_partOf_60 : decode cX5_partOf 60 = .ok (.iconst 0, 1) := by decide +kernel
theorem dX5_partOf_61 : decode cX5_partOf 61 = .ok (.istore 6, 2) := by decide +kernel
theorem dX5_partOf_63 : decode cX5_partOf 63 = .ok (.iload_n 3, 1) := by decide +kernel
theorem dX5_partOf_64 : decode cX5_partOf 64 = .ok (.iload 6, 2) := by decide +kernel
theorem dX5_partOf_66 : decode cX5_partOf 66 = .ok (.ifCond .eq 34, 3) := by decide +kernel
theorem dX5_partOf_69 : decode cX5_partOf 69 = .ok (.iload_n 2, 1) := by decide +kernel
theorem dX5_partOf_70 : decode cX5_partOf 70 = .ok (.iload 5, 2) := by decide +kernel
theorem dX5_partOf_72 : decode cX5_partOf 72 = .ok (.invokestatic 59, 3) := by decide +kernel
theorem dX5_partOf_75 : decode cX5_partOf 75 = .ok (.ifCond .eq 25, 3) := by decide +kernel
theorem dX5_partOf_78 : decode cX5_partOf 78 = .ok (.iconst 1, 1) := by decide +kernel
theorem dX5_partOf_79 : decode cX5_partOf 79 = .ok (.aload_n 0, 1) := by decide +kernel
theorem dX5_partOf_80 : decode cX5_partOf 80 = .ok (.getfield 7, 3) := by decide +kernel
theorem dX5_partOf_83 : decode cX5_partOf 83 = .ok (.iload 5, 2) := by decide +kernel
theorem dX5_partOf_85 : decode cX5_partOf 85 = .ok (.iaload, 1) := by decide +kernel
theorem dX5_partOf_86 : decode cX5_partOf 86 = .ok (.ishl, 1) := by decide +kernel
theorem dX5_partOf_87 : decode cX5_partOf 87 = .ok (.iconst 1, 1) := by decide +kernel
theorem dX5_partOf_88 : decode cX5_partOf 88 = .ok (.aload_n 0, 1) := by decide +kernel
theorem dX5_partOf_89 : decode cX5_partOf 89 = .ok (.getfield 13, 3) := by decide +kernel
theorem dX5_partOf_92 : decode cX5_partOf 92 = .ok (.iload 5, 2) := by decide +kernel
theorem dX5_partOf_94 : decode cX5_partOf 94 = .ok (.iaload, 1) := by decide +kernel
theorem dX5_partOf_95 : decode cX5_partOf 95 = .ok (.ishl, 1) := by decide +kernel
theorem dX5_partOf_96 : decode cX5_partOf 96 = .ok (.ior, 1) := by decide +kernel
theorem dX5_partOf_97 : decode cX5_partOf 97 = .ok (.goto 4, 3) := by decide +kernel
theorem dX5_partOf_100 : decode cX5_partOf 100 = .ok (.iconst 0, 1) := by decide +kernel
theorem dX5_partOf_101 : decode cX5_partOf 101 = .ok (.ior, 1) := by decide +kernel
theorem dX5_partOf_102 : decode cX5_partOf 102 = .ok (.istore_n 3, 1) := by decide +kernel
theorem dX5_partOf_103 : decode cX5_partOf 103 = .ok (.iinc 5 1, 3) := by decide +kernel
theorem dX5_partOf_106 : decode cX5_partOf 106 = .ok (.goto (-87), 3) := by decide +kernel
theorem dX5_partOf_109 : decode cX5_partOf 109 = .ok (.goto (-102), 3) := by decide +kernel
theorem dX5_partOf_112 : decode cX5_partOf 112 = .ok (.iload_n 3, 1) := by decide +kernel
theorem dX5_partOf_113 : decode cX5_partOf 113 = .ok (.ireturn, 1) := by decide +kernel
set_option maxRecDepth 20000 in
theorem ggX5_isLive_X5_partOf : GoodIn wsX5_isLive wsX5_partOf := goodIn_r _ [5, 6, 7, 8, 9, 10, 4, 11, 12, 13, 14, 15, 16, 17, 18, 19, 20, 21, 22, 23, 24, 25, 26, 27, 28, 29, 30] (by decide +kernel) (by decide +kernel)
set_option maxRecDepth 20000 in
theorem gX5_isLive_X5_partOf : GoodIn wsX5_isLive (wsV RX5 63 RX5 yX5_partOf wsX5_partOf) := goodIn_app (goodIn_of _ (by decide +kernel)) ggX5_isLive_X5_partOf
theorem dX5_isLive_0 : decode cX5_isLive 0 = .ok (.aload_n 0, 1) := by decide +kernel
theorem dX5_isLive_1 : decode cX5_isLive 1 = .ok (.iload_n 1, 1) := by decide +kernel
theorem dX5_isLive_2 : decode cX5_isLive 2 = .ok (.iload_n 2, 1) := by decide +kernel
theorem dX5_isLive_3 : decode cX5_isLive 3 = .ok (.invokevirtual 63, 3) := by decide +kernel
theorem dX5_isLive_6 : decode cX5_isLive 6 = .ok (.iload_n 3, 1) := by decide +kernel
theorem dX5_isLive_7 : decode cX5_isLive 7 = .ok (.iand, 1) := by decide +kernel
theorem dX5_isLive_8 : decode cX5_isLive 8 = .ok (.ifCond .eq 7, 3) := by decide +kernel
theorem dX5_isLive_11 : decode cX5_isLive 11 = .ok (.iconst 1, 1) := by decide +kernel
theorem dX5_isLive_12 : decode cX5_isLive 12 = .ok (.goto 4, 3) := by decide +kernel
theorem dX5_isLive_15 : decode cX5_isLive 15 = .ok (.iconst 0, 1) := by decide +kernel
theorem dX5_isLive_16 : decode cX5_isLive 16 = .ok (.ireturn, 1) := by decide +kernel
set_option maxRecDepth 20000 in
theorem ggX5_isEarthed_X5_partOf : GoodIn wsX5_isEarthed wsX5_partOf := goodIn_r _ [5, 6, 7, 8, 9, 10, 4, 11, 12, 13, 14, 15, 16, 17, 18, 19, 20, 21, 22, 23, 24, 25, 26, 27, 28, 29, 30] (by decide +kernel) (by decide +kernel)
set_option maxRecDepth 20000 in
theorem gX5_isEarthed_X5_partOf : GoodIn wsX5_isEarthed (wsV RX5 63 RX5 yX5_partOf wsX5_partOf) := goodIn_app (goodIn_of _ (by decide +kernel)) ggX5_isEarthed_X5_partOf
theorem dX5_isEarthed_0 : decode cX5_isEarthed 0 = .ok (.aload_n 0, 1) := by decide +kernel
theorem dX5_isEarthed_1 : decode cX5_isEarthed 1 = .ok (.iload_n 1, 1) := by decide +kernel
theorem dX5_isEarthed_2 : decode cX5_isEarthed 2 = .ok (.iload_n 2, 1) := by decide +kernel
theorem dX5_isEarthed_3 : decode cX5_isEarthed 3 = .ok (.invokevirtual 63, 3) := by decide +kernel
theorem dX5_isEarthed_6 : decode cX5_isEarthed 6 = .ok (.iload_n 3, 1) := by decide +kernel
theorem dX5_isEarthed_7 : decode cX5_isEarthed 7 = .ok (.iand, 1) := by decide +kernel
theorem dX5_isEarthed_8 : decode cX5_isEarthed 8 = .ok (.ifCond .eq 7, 3) := by decide +kernel
theorem dX5_isEarthed_11 : decode cX5_isEarthed 11 = .ok (.iconst 1, 1) := by decide +kernel
theorem dX5_isEarthed_12 : decode cX5_isEarthed 12 = .ok (.goto 4, 3) := by decide +kernel
theorem dX5_isEarthed_15 : decode cX5_isEarthed 15 = .ok (.iconst 0, 1) := by decide +kernel
theorem dX5_isEarthed_16 : decode cX5_isEarthed 16 = .ok (.ireturn, 1) := by decide +kernel
set_option maxRecDepth 20000 in
theorem ggX5_isLoaded_X5_isLive : GoodIn wsX5_isLoaded wsX5_isLive := goodIn_r _ [7, 8, 9, 10, 6, 11, 12, 13, 14, 15, 16, 17, 18, 19, 20, 21, 22, 23, 24, 25, 26, 27, 28, 29, 30, 31, 32, 33, 34, 35, 36] (by decide +kernel) (by decide +kernel)
set_option maxRecDepth 20000 in
theorem gX5_isLoaded_X5_isLive : GoodIn wsX5_isLoaded (wsV RX5 70 RX5 yX5_isLive wsX5_isLive) := goodIn_app (goodIn_of _ (by decide +kernel)) ggX5_isLoaded_X5_isLive
set_option maxRecDepth 20000 in
theorem ggX5_isLoaded_X5_partOf : GoodIn wsX5_isLoaded wsX5_partOf := goodIn_r _ [11, 12, 13, 14, 15, 16, 6, 17, 18, 19, 20, 21, 22, 23, 24, 25, 26, 27, 28, 29, 30, 31, 32, 33, 34, 35, 36] (by decide +kernel) (by decide +kernel)
set_option maxRecDepth 20000 in
theorem gX5_isLoaded_X5_partOf : GoodIn wsX5_isLoaded (wsV RX5 63 RX5 yX5_partOf wsX5_partOf) := goodIn_app (goodIn_of _ (by decide +kernel)) ggX5_isLoaded_X5_partOf
theorem dX5_isLoaded_0 : decode cX5_isLoaded 0 = .ok (.aload_n 0, 1) := by decide +kernel
theorem dX5_isLoaded_1 : decode cX5_isLoaded 1 = .ok (.iload_n 1, 1) := by decide +kernel
theorem dX5_isLoaded_2 : decode cX5_isLoaded 2 = .ok (.iload_n 2, 1) := by decide +kernel
theorem dX5_isLoaded_3 : decode cX5_isLoaded 3 = .ok (.aload_n 0, 1) := by decide +kernel
theorem dX5_isLoaded_4 : decode cX5_isLoaded 4 = .ok (.getfield 67, 3) := by decide +kernel
theorem dX5_isLoaded_7 : decode cX5_isLoaded 7 = .ok (.invokevirtual 70, 3) := by decide +kernel
theorem dX5_isLoaded_10 : decode cX5_isLoaded 10 = .ok (.ifCond .eq 21, 3) := by decide +kernel
theorem dX5_isLoaded_13 : decode cX5_isLoaded 13 = .ok (.aload_n 0, 1) := by decide +kernel
theorem dX5_isLoaded_14 : decode cX5_isLoaded 14 = .ok (.iload_n 1, 1) := by decide +kernel
theorem dX5_isLoaded_15 : decode cX5_isLoaded 15 = .ok (.iload_n 2, 1) := by decide +kernel
theorem dX5_isLoaded_16 : decode cX5_isLoaded 16 = .ok (.invokevirtual 63, 3) := by decide +kernel
theorem dX5_isLoaded_19 : decode cX5_isLoaded 19 = .ok (.aload_n 0, 1) := by decide +kernel
theorem dX5_isLoaded_20 : decode cX5_isLoaded 20 = .ok (.getfield 52, 3) := by decide +kernel
theorem dX5_isLoaded_23 : decode cX5_isLoaded 23 = .ok (.iand, 1) := by decide +kernel
theorem dX5_isLoaded_24 : decode cX5_isLoaded 24 = .ok (.ifCond .eq 7, 3) := by decide +kernel
theorem dX5_isLoaded_27 : decode cX5_isLoaded 27 = .ok (.iconst 1, 1) := by decide +kernel
theorem dX5_isLoaded_28 : decode cX5_isLoaded 28 = .ok (.goto 4, 3) := by decide +kernel
theorem dX5_isLoaded_31 : decode cX5_isLoaded 31 = .ok (.iconst 0, 1) := by decide +kernel
theorem dX5_isLoaded_32 : decode cX5_isLoaded 32 = .ok (.ireturn, 1) := by decide +kernel
theorem dX5_heldNow_0 : decode cX5_heldNow 0 = .ok (.iconst 0, 1) := by decide +kernel
theorem dX5_heldNow_1 : decode cX5_heldNow 1 = .ok (.istore_n 1, 1) := by decide +kernel
theorem dX5_heldNow_2 : decode cX5_heldNow 2 = .ok (.iconst 0, 1) := by decide +kernel
theorem dX5_heldNow_3 : decode cX5_heldNow 3 = .ok (.istore_n 2, 1) := by decide +kernel
theorem dX5_heldNow_4 : decode cX5_heldNow 4 = .ok (.iload_n 2, 1) := by decide +kernel
theorem dX5_heldNow_5 : decode cX5_heldNow 5 = .ok (.aload_n 0, 1) := by decide +kernel
theorem dX5_heldNow_6 : decode cX5_heldNow 6 = .ok (.getfield 73, 3) := by decide +kernel
theorem dX5_heldNow_9 : decode cX5_heldNow 9 = .ok (.if_icmp .ge 31, 3) := by decide +kernel
theorem dX5_heldNow_12 : decode cX5_heldNow 12 = .ok (.iload_n 1, 1) := by decide +kernel
theorem dX5_heldNow_13 : decode cX5_heldNow 13 = .ok (.aload_n 0, 1) := by decide +kernel
theorem dX5_heldNow_14 : decode cX5_heldNow 14 = .ok (.getfield 29, 3) := by decide +kernel
theorem dX5_heldNow_17 : decode cX5_heldNow 17 = .ok (.iload_n 2, 1) := by decide +kernel
theorem dX5_heldNow_18 : decode cX5_heldNow 18 = .ok (.baload, 1) := by decide +kernel
theorem dX5_heldNow_19 : decode cX5_heldNow 19 = .ok (.ifCond .eq 12, 3) := by decide +kernel
theorem dX5_heldNow_22 : decode cX5_heldNow 22 = .ok (.aload_n 0, 1) := by decide +kernel
theorem dX5_heldNow_23 : decode cX5_heldNow 23 = .ok (.getfield 26, 3) := by decide +kernel
theorem dX5_heldNow_26 : decode cX5_heldNow 26 = .ok (.iload_n 2, 1) := by decide +kernel
theorem dX5_heldNow_27 : decode cX5_heldNow 27 = .ok (.iaload, 1) := by decide +kernel
theorem dX5_heldNow_28 : decode cX5_heldNow 28 = .ok (.goto 4, 3) := by decide +kernel
theorem dX5_heldNow_31 : decode cX5_heldNow 31 = .ok (.iconst 0, 1) := by decide +kernel
theorem dX5_heldNow_32 : decode cX5_heldNow 32 = .ok (.ior, 1) := by decide +kernel
theorem dX5_heldNow_33 : decode cX5_heldNow 33 = .ok (.istore_n 1, 1) := by decide +kernel
theorem dX5_heldNow_34 : decode cX5_heldNow 34 = .ok (.iinc 2 1, 3) := by decide +kernel
theorem dX5_heldNow_37 : decode cX5_heldNow 37 = .ok (.goto (-33), 3) := by decide +kernel
theorem dX5_heldNow_40 : decode cX5_heldNow 40 = .ok (.iload_n 1, 1) := by decide +kernel
theorem dX5_heldNow_41 : decode cX5_heldNow 41 = .ok (.ireturn, 1) := by decide +kernel
set_option maxRecDepth 20000 in
theorem ggX5_isReady_X5_has : GoodIn wsX5_isReady wsX5_has := goodIn_r _ [8] (by decide +kernel) (by decide +kernel)
set_option maxRecDepth 20000 in
theorem gX5_isReady_X5_has : GoodIn wsX5_isReady (va_wsS RX5 59 yX5_has wsX5_has) := goodIn_app (goodIn_of _ (by decide +kernel)) ggX5_isReady_X5_has
theorem dX5_isReady_0 : decode cX5_isReady 0 = .ok (.iload_n 1, 1) := by decide +kernel
theorem dX5_isReady_1 : decode cX5_isReady 1 = .ok (.iconst 2, 1) := by decide +kernel
theorem dX5_isReady_2 : decode cX5_isReady 2 = .ok (.if_icmp .ge 29, 3) := by decide +kernel
theorem dX5_isReady_5 : decode cX5_isReady 5 = .ok (.aload_n 0, 1) := by decide +kernel
theorem dX5_isReady_6 : decode cX5_isReady 6 = .ok (.getfield 76, 3) := by decide +kernel
theorem dX5_isReady_9 : decode cX5_isReady 9 = .ok (.iload_n 2, 1) := by decide +kernel
theorem dX5_isReady_10 : decode cX5_isReady 10 = .ok (.invokestatic 59, 3) := by decide +kernel
theorem dX5_isReady_13 : decode cX5_isReady 13 = .ok (.iload_n 1, 1) := by decide +kernel
theorem dX5_isReady_14 : decode cX5_isReady 14 = .ok (.ifCond .ne 7, 3) := by decide +kernel
theorem dX5_isReady_17 : decode cX5_isReady 17 = .ok (.iconst 1, 1) := by decide +kernel
theorem dX5_isReady_18 : decode cX5_isReady 18 = .ok (.goto 4, 3) := by decide +kernel
theorem dX5_isReady_21 : decode cX5_isReady 21 = .ok (.iconst 0, 1) := by decide +kernel
theorem dX5_isReady_22 : decode cX5_isReady 22 = .ok (.if_icmp .ne 7, 3) := by decide +kernel
theorem dX5_isReady_25 : decode cX5_isReady 25 = .ok (.iconst 1, 1) := by decide +kernel
theorem dX5_isReady_26 : decode cX5_isReady 26 = .ok (.goto 4, 3) := by decide +kernel
theorem dX5_isReady_29 : decode cX5_isReady 29 = .ok (.iconst 0, 1) := by decide +kernel
theorem dX5_isReady_30 : decode cX5_isReady 30 = .ok (.ireturn, 1) := by decide +kernel
theorem dX5_isReady_31 : decode cX5_isReady 31 = .ok (.iload_n 1, 1) := by decide +kernel
theorem dX5_isReady_32 : decode cX5_isReady 32 = .ok (.iconst 4, 1) := by decide +kernel
theorem dX5_isReady_33 : decode cX5_isReady 33 = .ok (.if_icmp .ge 30, 3) := by decide +kernel
theorem dX5_isReady_36 : decode cX5_isReady 36 = .ok (.aload_n 0, 1) := by decide +kernel
theorem dX5_isReady_37 : decode cX5_isReady 37 = .ok (.getfield 79, 3) := by decide +kernel
theorem dX5_isReady_40 : decode cX5_isReady 40 = .ok (.iload_n 2, 1) := by decide +kernel
theorem dX5_isReady_41 : decode cX5_isReady 41 = .ok (.invokestatic 59, 3) := by decide +kernel
theorem dX5_isReady_44 : decode cX5_isReady 44 = .ok (.iload_n 1, 1) := by decide +kernel
theorem dX5_isReady_45 : decode cX5_isReady 45 = .ok (.iconst 3, 1) := by decide +kernel
theorem dX5_isReady_46 : decode cX5_isReady 46 = .ok (.if_icmp .ne 7, 3) := by decide +kernel
theorem dX5_isReady_49 : decode cX5_isReady 49 = .ok (.iconst 1, 1) := by decide +kernel
theorem dX5_isReady_50 : decode cX5_isReady 50 = .ok (.goto 4, 3) := by decide +kernel
theorem dX5_isReady_53 : decode cX5_isReady 53 = .ok (.iconst 0, 1) := by decide +kernel
theorem dX5_isReady_54 : decode cX5_isReady 54 = .ok (.if_icmp .ne 7, 3) := by decide +kernel
theorem dX5_isReady_57 : decode cX5_isReady 57 = .ok (.iconst 1, 1) := by decide +kernel
theorem dX5_isReady_58 : decode cX5_isReady 58 = .ok (.goto 4, 3) := by decide +kernel
theorem dX5_isReady_61 : decode cX5_isReady 61 = .ok (.iconst 0, 1) := by decide +kernel
theorem dX5_isReady_62 : decode cX5_isReady 62 = .ok (.ireturn, 1) := by decide +kernel
theorem dX5_isReady_63 : decode cX5_isReady 63 = .ok (.aload_n 0, 1) := by decide +kernel
theorem dX5_isReady_64 : decode cX5_isReady 64 = .ok (.getfield 49, 3) := by decide +kernel
theorem dX5_isReady_67 : decode cX5_isReady 67 = .ok (.iload_n 2, 1) := by decide +kernel
theorem dX5_isReady_68 : decode cX5_isReady 68 = .ok (.invokestatic 59, 3) := by decide +kernel
theorem dX5_isReady_71 : decode cX5_isReady 71 = .ok (.ifCond .eq 28, 3) := by decide +kernel
theorem dX5_isReady_74 : decode cX5_isReady 74 = .ok (.aload_n 0, 1) := by decide +kernel
theorem dX5_isReady_75 : decode cX5_isReady 75 = .ok (.getfield 67, 3) := by decide +kernel
theorem dX5_isReady_78 : decode cX5_isReady 78 = .ok (.iload_n 2, 1) := by decide +kernel
theorem dX5_isReady_79 : decode cX5_isReady 79 = .ok (.invokestatic 59, 3) := by decide +kernel
theorem dX5_isReady_82 : decode cX5_isReady 82 = .ok (.iload_n 1, 1) := by decide +kernel
theorem dX5_isReady_83 : decode cX5_isReady 83 = .ok (.iconst 5, 1) := by decide +kernel
theorem dX5_isReady_84 : decode cX5_isReady 84 = .ok (.if_icmp .ne 7, 3) := by decide +kernel
theorem dX5_isReady_87 : decode cX5_isReady 87 = .ok (.iconst 1, 1) := by decide +kernel
theorem dX5_isReady_88 : decode cX5_isReady 88 = .ok (.goto 4, 3) := by decide +kernel
theorem dX5_isReady_91 : decode cX5_isReady 91 = .ok (.iconst 0, 1) := by decide +kernel
theorem dX5_isReady_92 : decode cX5_isReady 92 = .ok (.if_icmp .ne 7, 3) := by decide +kernel
theorem dX5_isReady_95 : decode cX5_isReady 95 = .ok (.iconst 1, 1) := by decide +kernel
theorem dX5_isReady_96 : decode cX5_isReady 96 = .ok (.goto 4, 3) := by decide +kernel
theorem dX5_isReady_99 : decode cX5_isReady 99 = .ok (.iconst 0, 1) := by decide +kernel
theorem dX5_isReady_100 : decode cX5_isReady 100 = .ok (.ireturn, 1) := by decide +kernel
theorem dX5_touched_0 : decode cX5_touched 0 = .ok (.iload_n 1, 1) := by decide +kernel
theorem dX5_touched_1 : decode cX5_touched 1 = .ok (.iconst 2, 1) := by decide +kernel
theorem dX5_touched_2 : decode cX5_touched 2 = .ok (.if_icmp .ge 23, 3) := by decide +kernel
theorem dX5_touched_5 : decode cX5_touched 5 = .ok (.iconst 1, 1) := by decide +kernel
theorem dX5_touched_6 : decode cX5_touched 6 = .ok (.aload_n 0, 1) := by decide +kernel
theorem dX5_touched_7 : decode cX5_touched 7 = .ok (.getfield 7, 3) := by decide +kernel
theorem dX5_touched_10 : decode cX5_touched 10 = .ok (.iload_n 2, 1) := by decide +kernel
theorem dX5_touched_11 : decode cX5_touched 11 = .ok (.iaload, 1) := by decide +kernel
theorem dX5_touched_12 : decode cX5_touched 12 = .ok (.ishl, 1) := by decide +kernel
theorem dX5_touched_13 : decode cX5_touched 13 = .ok (.iconst 1, 1) := by decide +kernel
theorem dX5_touched_14 : decode cX5_touched 14 = .ok (.aload_n 0, 1) := by decide +kernel
theorem dX5_touched_15 : decode cX5_touched 15 = .ok (.getfield 13, 3) := by decide +kernel
theorem dX5_touched_18 : decode cX5_touched 18 = .ok (.iload_n 2, 1) := by decide +kernel
theorem dX5_touched_19 : decode cX5_touched 19 = .ok (.iaload, 1) := by decide +kernel
theorem dX5_touched_20 : decode cX5_touched 20 = .ok (.ishl, 1) := by decide +kernel
theorem dX5_touched_21 : decode cX5_touched 21 = .ok (.ior, 1) := by decide +kernel
theorem dX5_touched_22 : decode cX5_touched 22 = .ok (.goto 6, 3) := by decide +kernel
theorem dX5_touched_25 : decode cX5_touched 25 = .ok (.iconst 1, 1) := by decide +kernel
theorem dX5_touched_26 : decode cX5_touched 26 = .ok (.iload_n 2, 1) := by decide +kernel
theorem dX5_touched_27 : decode cX5_touched 27 = .ok (.ishl, 1) := by decide +kernel
theorem dX5_touched_28 : decode cX5_touched 28 = .ok (.ireturn, 1) := by decide +kernel
set_option maxRecDepth 20000 in
theorem ggX5_isBarredOpening_X5_isLoaded : GoodIn wsX5_isBarredOpening wsX5_isLoaded := goodIn_r _ [9, 10, 11, 12, 13, 14, 8, 15, 16, 17, 18, 19, 20, 1, 3, 21, 22, 23, 24, 25, 26, 27, 28, 29, 30, 31, 32, 33, 34, 35, 36, 37, 38, 39, 40, 41, 42] (by decide +kernel) (by decide +kernel)
set_option maxRecDepth 20000 in
theorem gX5_isBarredOpening_X5_isLoaded : GoodIn wsX5_isBarredOpening (wsV RX5 82 RX5 yX5_isLoaded wsX5_isLoaded) := goodIn_app (goodIn_of _ (by decide +kernel)) ggX5_isBarredOpening_X5_isLoaded
set_option maxRecDepth 20000 in
theorem ggX5_isBarredOpening_X5_partOf : GoodIn wsX5_isBarredOpening wsX5_partOf := goodIn_r _ [19, 20, 1, 3, 21, 22, 8, 23, 24, 25, 26, 27, 28, 29, 30, 31, 32, 33, 34, 35, 36, 37, 38, 39, 40, 41, 42] (by decide +kernel) (by decide +kernel)
set_option maxRecDepth 20000 in
theorem gX5_isBarredOpening_X5_partOf : GoodIn wsX5_isBarredOpening (wsV RX5 63 RX5 yX5_partOf wsX5_partOf) := goodIn_app (goodIn_of _ (by decide +kernel)) ggX5_isBarredOpening_X5_partOf
set_option maxRecDepth 20000 in
theorem ggX5_isBarredOpening_X5_has : GoodIn wsX5_isBarredOpening wsX5_has := goodIn_r _ [23] (by decide +kernel) (by decide +kernel)
set_option maxRecDepth 20000 in
theorem gX5_isBarredOpening_X5_has : GoodIn wsX5_isBarredOpening (va_wsS RX5 59 yX5_has wsX5_has) := goodIn_app (goodIn_of _ (by decide +kernel)) ggX5_isBarredOpening_X5_has
theorem dX5_isBarredOpening_0 : decode cX5_isBarredOpening 0 = .ok (.aload_n 0, 1) := by decide +kernel
theorem dX5_isBarredOpening_1 : decode cX5_isBarredOpening 1 = .ok (.aload_n 0, 1) := by decide +kernel
theorem dX5_isBarredOpening_2 : decode cX5_isBarredOpening 2 = .ok (.getfield 7, 3) := by decide +kernel
theorem dX5_isBarredOpening_5 : decode cX5_isBarredOpening 5 = .ok (.iload_n 1, 1) := by decide +kernel
theorem dX5_isBarredOpening_6 : decode cX5_isBarredOpening 6 = .ok (.iaload, 1) := by decide +kernel
theorem dX5_isBarredOpening_7 : decode cX5_isBarredOpening 7 = .ok (.aload_n 0, 1) := by decide +kernel
theorem dX5_isBarredOpening_8 : decode cX5_isBarredOpening 8 = .ok (.getfield 76, 3) := by decide +kernel
theorem dX5_isBarredOpening_11 : decode cX5_isBarredOpening 11 = .ok (.invokevirtual 82, 3) := by decide +kernel
theorem dX5_isBarredOpening_14 : decode cX5_isBarredOpening 14 = .ok (.ifCond .ne 24, 3) := by decide +kernel
theorem dX5_isBarredOpening_17 : decode cX5_isBarredOpening 17 = .ok (.aload_n 0, 1) := by decide +kernel
theorem dX5_isBarredOpening_18 : decode cX5_isBarredOpening 18 = .ok (.aload_n 0, 1) := by decide +kernel
theorem dX5_isBarredOpening_19 : decode cX5_isBarredOpening 19 = .ok (.getfield 13, 3) := by decide +kernel
theorem dX5_isBarredOpening_22 : decode cX5_isBarredOpening 22 = .ok (.iload_n 1, 1) := by decide +kernel
theorem dX5_isBarredOpening_23 : decode cX5_isBarredOpening 23 = .ok (.iaload, 1) := by decide +kernel
theorem dX5_isBarredOpening_24 : decode cX5_isBarredOpening 24 = .ok (.aload_n 0, 1) := by decide +kernel
theorem dX5_isBarredOpening_25 : decode cX5_isBarredOpening 25 = .ok (.getfield 76, 3) := by decide +kernel
theorem dX5_isBarredOpening_28 : decode cX5_isBarredOpening 28 = .ok (.invokevirtual 82, 3) := by decide +kernel
theorem dX5_isBarredOpening_31 : decode cX5_isBarredOpening 31 = .ok (.ifCond .ne 7, 3) := by decide +kernel
theorem dX5_isBarredOpening_34 : decode cX5_isBarredOpening 34 = .ok (.iconst 1, 1) := by decide +kernel
theorem dX5_isBarredOpening_35 : decode cX5_isBarredOpening 35 = .ok (.goto 4, 3) := by decide +kernel
theorem dX5_isBarredOpening_38 : decode cX5_isBarredOpening 38 = .ok (.iconst 0, 1) := by decide +kernel
theorem dX5_isBarredOpening_39 : decode cX5_isBarredOpening 39 = .ok (.istore_n 2, 1) := by decide +kernel
theorem dX5_isBarredOpening_40 : decode cX5_isBarredOpening 40 = .ok (.aload_n 0, 1) := by decide +kernel
theorem dX5_isBarredOpening_41 : decode cX5_isBarredOpening 41 = .ok (.getfield 16, 3) := by decide +kernel
theorem dX5_isBarredOpening_44 : decode cX5_isBarredOpening 44 = .ok (.iload_n 1, 1) := by decide +kernel
theorem dX5_isBarredOpening_45 : decode cX5_isBarredOpening 45 = .ok (.baload, 1) := by decide +kernel
theorem dX5_isBarredOpening_46 : decode cX5_isBarredOpening 46 = .ok (.ifCond .ne 43, 3) := by decide +kernel
theorem dX5_isBarredOpening_49 : decode cX5_isBarredOpening 49 = .ok (.iload_n 2, 1) := by decide +kernel
theorem dX5_isBarredOpening_50 : decode cX5_isBarredOpening 50 = .ok (.ifCond .ne 39, 3) := by decide +kernel
theorem dX5_isBarredOpening_53 : decode cX5_isBarredOpening 53 = .ok (.aload_n 0, 1) := by decide +kernel
theorem dX5_isBarredOpening_54 : decode cX5_isBarredOpening 54 = .ok (.aload_n 0, 1) := by decide +kernel
theorem dX5_isBarredOpening_55 : decode cX5_isBarredOpening 55 = .ok (.getfield 7, 3) := by decide +kernel
theorem dX5_isBarredOpening_58 : decode cX5_isBarredOpening 58 = .ok (.iload_n 1, 1) := by decide +kernel
theorem dX5_isBarredOpening_59 : decode cX5_isBarredOpening 59 = .ok (.iaload, 1) := by decide +kernel
theorem dX5_isBarredOpening_60 : decode cX5_isBarredOpening 60 = .ok (.aload_n 0, 1) := by decide +kernel
theorem dX5_isBarredOpening_61 : decode cX5_isBarredOpening 61 = .ok (.getfield 76, 3) := by decide +kernel
theorem dX5_isBarredOpening_64 : decode cX5_isBarredOpening 64 = .ok (.iconst 1, 1) := by decide +kernel
theorem dX5_isBarredOpening_65 : decode cX5_isBarredOpening 65 = .ok (.iload_n 1, 1) := by decide +kernel
theorem dX5_isBarredOpening_66 : decode cX5_isBarredOpening 66 = .ok (.ishl, 1) := by decide +kernel
theorem dX5_isBarredOpening_67 : decode cX5_isBarredOpening 67 = .ok (.iconst (-1), 1) := by decide +kernel
theorem dX5_isBarredOpening_68 : decode cX5_isBarredOpening 68 = .ok (.ixor, 1) := by decide +kernel
theorem dX5_isBarredOpening_69 : decode cX5_isBarredOpening 69 = .ok (.iand, 1) := by decide +kernel
theorem dX5_isBarredOpening_70 : decode cX5_isBarredOpening 70 = .ok (.invokevirtual 63, 3) := by decide +kernel
theorem dX5_isBarredOpening_73 : decode cX5_isBarredOpening 73 = .ok (.aload_n 0, 1) := by decide +kernel
theorem dX5_isBarredOpening_74 : decode cX5_isBarredOpening 74 = .ok (.getfield 13, 3) := by decide +kernel
theorem dX5_isBarredOpening_77 : decode cX5_isBarredOpening 77 = .ok (.iload_n 1, 1) := by decide +kernel
theorem dX5_isBarredOpening_78 : decode cX5_isBarredOpening 78 = .ok (.iaload, 1) := by decide +kernel
theorem dX5_isBarredOpening_79 : decode cX5_isBarredOpening 79 = .ok (.invokestatic 59, 3) := by decide +kernel
theorem dX5_isBarredOpening_82 : decode cX5_isBarredOpening 82 = .ok (.ifCond .ne 7, 3) := by decide +kernel
theorem dX5_isBarredOpening_85 : decode cX5_isBarredOpening 85 = .ok (.iconst 1, 1) := by decide +kernel
theorem dX5_isBarredOpening_86 : decode cX5_isBarredOpening 86 = .ok (.goto 4, 3) := by decide +kernel
theorem dX5_isBarredOpening_89 : decode cX5_isBarredOpening 89 = .ok (.iconst 0, 1) := by decide +kernel
theorem dX5_isBarredOpening_90 : decode cX5_isBarredOpening 90 = .ok (.ireturn, 1) := by decide +kernel
set_option maxRecDepth 20000 in
theorem ggX5_isBarredClosing_X5_isLive : GoodIn wsX5_isBarredClosing wsX5_isLive := goodIn_r _ [11, 12, 13, 14, 10, 15, 16, 1, 4, 17, 18, 19, 29, 30, 31, 32, 33, 34, 35, 36, 37, 38, 39, 40, 41, 42, 43, 44, 45, 46, 47] (by decide +kernel) (by decide +kernel)
set_option maxRecDepth 20000 in
theorem gX5_isBarredClosing_X5_isLive : GoodIn wsX5_isBarredClosing (wsV RX5 70 RX5 yX5_isLive wsX5_isLive) := goodIn_app (goodIn_of _ (by decide +kernel)) ggX5_isBarredClosing_X5_isLive
set_option maxRecDepth 20000 in
theorem ggX5_isBarredClosing_X5_isEarthed : GoodIn wsX5_isBarredClosing wsX5_isEarthed := goodIn_r _ [23, 12, 13, 14, 10, 15, 16, 1, 4, 17, 18, 19, 29, 30, 31, 32, 33, 34, 35, 36, 37, 38, 39, 40, 41, 42, 43, 44, 45, 46, 47] (by decide +kernel) (by decide +kernel)
set_option maxRecDepth 20000 in
theorem gX5_isBarredClosing_X5_isEarthed : GoodIn wsX5_isBarredClosing (wsV RX5 85 RX5 yX5_isEarthed wsX5_isEarthed) := goodIn_app (goodIn_of _ (by decide +kernel)) ggX5_isBarredClosing_X5_isEarthed
set_option maxRecDepth 20000 in
theorem ggX5_isBarredClosing_X5_partOf : GoodIn wsX5_isBarredClosing wsX5_partOf := goodIn_r _ [15, 16, 1, 4, 17, 18, 10, 19, 29, 30, 31, 32, 33, 34, 35, 36, 37, 38, 39, 40, 41, 42, 43, 44, 45, 46, 47] (by decide +kernel) (by decide +kernel)
set_option maxRecDepth 20000 in
theorem gX5_isBarredClosing_X5_partOf : GoodIn wsX5_isBarredClosing (wsV RX5 63 RX5 yX5_partOf wsX5_partOf) := goodIn_app (goodIn_of _ (by decide +kernel)) ggX5_isBarredClosing_X5_partOf
set_option maxRecDepth 20000 in
theorem ggX5_isBarredClosing_X5_has : GoodIn wsX5_isBarredClosing wsX5_has := goodIn_r _ [19] (by decide +kernel) (by decide +kernel)
set_option maxRecDepth 20000 in
theorem gX5_isBarredClosing_X5_has : GoodIn wsX5_isBarredClosing (va_wsS RX5 59 yX5_has wsX5_has) := goodIn_app (goodIn_of _ (by decide +kernel)) ggX5_isBarredClosing_X5_has
set_option maxRecDepth 20000 in
theorem ggX5_isBarredClosing_X5_isLoaded : GoodIn wsX5_isBarredClosing wsX5_isLoaded := goodIn_r _ [27, 3, 28, 7, 8, 9, 10, 11, 12, 13, 14, 15, 16, 1, 4, 17, 18, 19, 29, 30, 31, 32, 33, 34, 35, 36, 37, 38, 39, 40, 41, 42, 43, 44, 45, 46, 47] (by decide +kernel) (by decide +kernel)
set_option maxRecDepth 20000 in
theorem gX5_isBarredClosing_X5_isLoaded : GoodIn wsX5_isBarredClosing (wsV RX5 82 RX5 yX5_isLoaded wsX5_isLoaded) := goodIn_app (goodIn_of _ (by decide +kernel)) ggX5_isBarredClosing_X5_isLoaded
theorem dX5_isBarredClosing_0 : decode cX5_isBarredClosing 0 = .ok (.aload_n 0, 1) := by decide +kernel
theorem dX5_isBarredClosing_1 : decode cX5_isBarredClosing 1 = .ok (.aload_n 0, 1) := by decide +kernel
theorem dX5_isBarredClosing_2 : decode cX5_isBarredClosing 2 = .ok (.getfield 7, 3) := by decide +kernel
theorem dX5_isBarredClosing_5 : decode cX5_isBarredClosing 5 = .ok (.iload_n 1, 1) := by decide +kernel
theorem dX5_isBarredClosing_6 : decode cX5_isBarredClosing 6 = .ok (.iaload, 1) := by decide +kernel
theorem dX5_isBarredClosing_7 : decode cX5_isBarredClosing 7 = .ok (.aload_n 0, 1) := by decide +kernel
theorem dX5_isBarredClosing_8 : decode cX5_isBarredClosing 8 = .ok (.getfield 76, 3) := by decide +kernel
theorem dX5_isBarredClosing_11 : decode cX5_isBarredClosing 11 = .ok (.aload_n 0, 1) := by decide +kernel
theorem dX5_isBarredClosing_12 : decode cX5_isBarredClosing 12 = .ok (.getfield 67, 3) := by decide +kernel
theorem dX5_isBarredClosing_15 : decode cX5_isBarredClosing 15 = .ok (.invokevirtual 70, 3) := by decide +kernel
theorem dX5_isBarredClosing_18 : decode cX5_isBarredClosing 18 = .ok (.ifCond .eq 28, 3) := by decide +kernel
theorem dX5_isBarredClosing_21 : decode cX5_isBarredClosing 21 = .ok (.aload_n 0, 1) := by decide +kernel
theorem dX5_isBarredClosing_22 : decode cX5_isBarredClosing 22 = .ok (.aload_n 0, 1) := by decide +kernel
theorem dX5_isBarredClosing_23 : decode cX5_isBarredClosing 23 = .ok (.getfield 13, 3) := by decide +kernel
theorem dX5_isBarredClosing_26 : decode cX5_isBarredClosing 26 = .ok (.iload_n 1, 1) := by decide +kernel
theorem dX5_isBarredClosing_27 : decode cX5_isBarredClosing 27 = .ok (.iaload, 1) := by decide +kernel
theorem dX5_isBarredClosing_28 : decode cX5_isBarredClosing 28 = .ok (.aload_n 0, 1) := by decide +kernel
theorem dX5_isBarredClosing_29 : decode cX5_isBarredClosing 29 = .ok (.getfield 76, 3) := by decide +kernel
theorem dX5_isBarredClosing_32 : decode cX5_isBarredClosing 32 = .ok (.aload_n 0, 1) := by decide +kernel
theorem dX5_isBarredClosing_33 : decode cX5_isBarredClosing 33 = .ok (.getfield 79, 3) := by decide +kernel
theorem dX5_isBarredClosing_36 : decode cX5_isBarredClosing 36 = .ok (.invokevirtual 85, 3) := by decide +kernel
theorem dX5_isBarredClosing_39 : decode cX5_isBarredClosing 39 = .ok (.ifCond .eq 7, 3) := by decide +kernel
theorem dX5_isBarredClosing_42 : decode cX5_isBarredClosing 42 = .ok (.iconst 1, 1) := by decide +kernel
theorem dX5_isBarredClosing_43 : decode cX5_isBarredClosing 43 = .ok (.goto 4, 3) := by decide +kernel
theorem dX5_isBarredClosing_46 : decode cX5_isBarredClosing 46 = .ok (.iconst 0, 1) := by decide +kernel
theorem dX5_isBarredClosing_47 : decode cX5_isBarredClosing 47 = .ok (.istore_n 2, 1) := by decide +kernel
theorem dX5_isBarredClosing_48 : decode cX5_isBarredClosing 48 = .ok (.aload_n 0, 1) := by decide +kernel
theorem dX5_isBarredClosing_49 : decode cX5_isBarredClosing 49 = .ok (.aload_n 0, 1) := by decide +kernel
theorem dX5_isBarredClosing_50 : decode cX5_isBarredClosing 50 = .ok (.getfield 13, 3) := by decide +kernel
theorem dX5_isBarredClosing_53 : decode cX5_isBarredClosing 53 = .ok (.iload_n 1, 1) := by decide +kernel
theorem dX5_isBarredClosing_54 : decode cX5_isBarredClosing 54 = .ok (.iaload, 1) := by decide +kernel
theorem dX5_isBarredClosing_55 : decode cX5_isBarredClosing 55 = .ok (.aload_n 0, 1) := by decide +kernel
theorem dX5_isBarredClosing_56 : decode cX5_isBarredClosing 56 = .ok (.getfield 76, 3) := by decide +kernel
theorem dX5_isBarredClosing_59 : decode cX5_isBarredClosing 59 = .ok (.aload_n 0, 1) := by decide +kernel
theorem dX5_isBarredClosing_60 : decode cX5_isBarredClosing 60 = .ok (.getfield 67, 3) := by decide +kernel
theorem dX5_isBarredClosing_63 : decode cX5_isBarredClosing 63 = .ok (.invokevirtual 70, 3) := by decide +kernel
theorem dX5_isBarredClosing_66 : decode cX5_isBarredClosing 66 = .ok (.ifCond .eq 28, 3) := by decide +kernel
theorem dX5_isBarredClosing_69 : decode cX5_isBarredClosing 69 = .ok (.aload_n 0, 1) := by decide +kernel
theorem dX5_isBarredClosing_70 : decode cX5_isBarredClosing 70 = .ok (.aload_n 0, 1) := by decide +kernel
theorem dX5_isBarredClosing_71 : decode cX5_isBarredClosing 71 = .ok (.getfield 7, 3) := by decide +kernel
theorem dX5_isBarredClosing_74 : decode cX5_isBarredClosing 74 = .ok (.iload_n 1, 1) := by decide +kernel
theorem dX5_isBarredClosing_75 : decode cX5_isBarredClosing 75 = .ok (.iaload, 1) := by decide +kernel
theorem dX5_isBarredClosing_76 : decode cX5_isBarredClosing 76 = .ok (.aload_n 0, 1) := by decide +kernel
theorem dX5_isBarredClosing_77 : decode cX5_isBarredClosing 77 = .ok (.getfield 76, 3) := by decide +kernel
theorem dX5_isBarredClosing_80 : decode cX5_isBarredClosing 80 = .ok (.aload_n 0, 1) := by decide +kernel
theorem dX5_isBarredClosing_81 : decode cX5_isBarredClosing 81 = .ok (.getfield 79, 3) := by decide +kernel
theorem dX5_isBarredClosing_84 : decode cX5_isBarredClosing 84 = .ok (.invokevirtual 85, 3) := by decide +kernel
theorem dX5_isBarredClosing_87 : decode cX5_isBarredClosing 87 = .ok (.ifCond .eq 7, 3) := by decide +kernel
theorem dX5_isBarredClosing_90 : decode cX5_isBarredClosing 90 = .ok (.iconst 1, 1) := by decide +kernel
theorem dX5_isBarredClosing_91 : decode cX5_isBarredClosing 91 = .ok (.goto 4, 3) := by decide +kernel
theorem dX5_isBarredClosing_94 : decode cX5_isBarredClosing 94 = .ok (.iconst 0, 1) := by decide +kernel
theorem dX5_isBarredClosing_95 : decode cX5_isBarredClosing 95 = .ok (.istore_n 3, 1) := by decide +kernel
theorem dX5_isBarredClosing_96 : decode cX5_isBarredClosing 96 = .ok (.aload_n 0, 1) := by decide +kernel
theorem dX5_isBarredClosing_97 : decode cX5_isBarredClosing 97 = .ok (.getfield 76, 3) := by decide +kernel
theorem dX5_isBarredClosing_100 : decode cX5_isBarredClosing 100 = .ok (.iconst 1, 1) := by decide +kernel
theorem dX5_isBarredClosing_101 : decode cX5_isBarredClosing 101 = .ok (.iload_n 1, 1) := by decide +kernel
theorem dX5_isBarredClosing_102 : decode cX5_isBarredClosing 102 = .ok (.ishl, 1) := by decide +kernel
theorem dX5_isBarredClosing_103 : decode cX5_isBarredClosing 103 = .ok (.ior, 1) := by decide +kernel
theorem dX5_isBarredClosing_104 : decode cX5_isBarredClosing 104 = .ok (.istore 4, 2) := by decide +kernel
theorem dX5_isBarredClosing_106 : decode cX5_isBarredClosing 106 = .ok (.aload_n 0, 1) := by decide +kernel
theorem dX5_isBarredClosing_107 : decode cX5_isBarredClosing 107 = .ok (.aload_n 0, 1) := by decide +kernel
theorem dX5_isBarredClosing_108 : decode cX5_isBarredClosing 108 = .ok (.getfield 7, 3) := by decide +kernel
theorem dX5_isBarredClosing_111 : decode cX5_isBarredClosing 111 = .ok (.iload_n 1, 1) := by decide +kernel
theorem dX5_isBarredClosing_112 : decode cX5_isBarredClosing 112 = .ok (.iaload, 1) := by decide +kernel
theorem dX5_isBarredClosing_113 : decode cX5_isBarredClosing 113 = .ok (.aload_n 0, 1) := by decide +kernel
theorem dX5_isBarredClosing_114 : decode cX5_isBarredClosing 114 = .ok (.getfield 76, 3) := by decide +kernel
theorem dX5_isBarredClosing_117 : decode cX5_isBarredClosing 117 = .ok (.invokevirtual 63, 3) := by decide +kernel
theorem dX5_isBarredClosing_120 : decode cX5_isBarredClosing 120 = .ok (.aload_n 0, 1) := by decide +kernel
theorem dX5_isBarredClosing_121 : decode cX5_isBarredClosing 121 = .ok (.getfield 13, 3) := by decide +kernel
theorem dX5_isBarredClosing_124 : decode cX5_isBarredClosing 124 = .ok (.iload_n 1, 1) := by decide +kernel
theorem dX5_isBarredClosing_125 : decode cX5_isBarredClosing 125 = .ok (.iaload, 1) := by decide +kernel
theorem dX5_isBarredClosing_126 : decode cX5_isBarredClosing 126 = .ok (.invokestatic 59, 3) := by decide +kernel
theorem dX5_isBarredClosing_129 : decode cX5_isBarredClosing 129 = .ok (.ifCond .ne 33, 3) := by decide +kernel
theorem dX5_isBarredClosing_132 : decode cX5_isBarredClosing 132 = .ok (.aload_n 0, 1) := by decide +kernel
theorem dX5_isBarredClosing_133 : decode cX5_isBarredClosing 133 = .ok (.aload_n 0, 1) := by decide +kernel
theorem dX5_isBarredClosing_134 : decode cX5_isBarredClosing 134 = .ok (.getfield 7, 3) := by decide +kernel
theorem dX5_isBarredClosing_137 : decode cX5_isBarredClosing 137 = .ok (.iload_n 1, 1) := by decide +kernel
theorem dX5_isBarredClosing_138 : decode cX5_isBarredClosing 138 = .ok (.iaload, 1) := by decide +kernel
theorem dX5_isBarredClosing_139 : decode cX5_isBarredClosing 139 = .ok (.iload 4, 2) := by decide +kernel
theorem dX5_isBarredClosing_141 : decode cX5_isBarredClosing 141 = .ok (.invokevirtual 82, 3) := by decide +kernel
theorem dX5_isBarredClosing_144 : decode cX5_isBarredClosing 144 = .ok (.ifCond .ne 22, 3) := by decide +kernel
theorem dX5_isBarredClosing_147 : decode cX5_isBarredClosing 147 = .ok (.aload_n 0, 1) := by decide +kernel
theorem dX5_isBarredClosing_148 : decode cX5_isBarredClosing 148 = .ok (.aload_n 0, 1) := by decide +kernel
theorem dX5_isBarredClosing_149 : decode cX5_isBarredClosing 149 = .ok (.getfield 13, 3) := by decide +kernel
theorem dX5_isBarredClosing_152 : decode cX5_isBarredClosing 152 = .ok (.iload_n 1, 1) := by decide +kernel
theorem dX5_isBarredClosing_153 : decode cX5_isBarredClosing 153 = .ok (.iaload, 1) := by decide +kernel
theorem dX5_isBarredClosing_154 : decode cX5_isBarredClosing 154 = .ok (.iload 4, 2) := by decide +kernel
theorem dX5_isBarredClosing_156 : decode cX5_isBarredClosing 156 = .ok (.invokevirtual 82, 3) := by decide +kernel
theorem dX5_isBarredClosing_159 : decode cX5_isBarredClosing 159 = .ok (.ifCond .ne 7, 3) := by decide +kernel
theorem dX5_isBarredClosing_162 : decode cX5_isBarredClosing 162 = .ok (.iconst 1, 1) := by decide +kernel
theorem dX5_isBarredClosing_163 : decode cX5_isBarredClosing 163 = .ok (.goto 4, 3) := by decide +kernel
theorem dX5_isBarredClosing_166 : decode cX5_isBarredClosing 166 = .ok (.iconst 0, 1) := by decide +kernel
theorem dX5_isBarredClosing_167 : decode cX5_isBarredClosing 167 = .ok (.istore 5, 2) := by decide +kernel
theorem dX5_isBarredClosing_169 : decode cX5_isBarredClosing 169 = .ok (.iload_n 2, 1) := by decide +kernel
theorem dX5_isBarredClosing_170 : decode cX5_isBarredClosing 170 = .ok (.ifCond .ne 21, 3) := by decide +kernel
theorem dX5_isBarredClosing_173 : decode cX5_isBarredClosing 173 = .ok (.iload_n 3, 1) := by decide +kernel
theorem dX5_isBarredClosing_174 : decode cX5_isBarredClosing 174 = .ok (.ifCond .ne 17, 3) := by decide +kernel
theorem dX5_isBarredClosing_177 : decode cX5_isBarredClosing 177 = .ok (.aload_n 0, 1) := by decide +kernel
theorem dX5_isBarredClosing_178 : decode cX5_isBarredClosing 178 = .ok (.getfield 16, 3) := by decide +kernel
theorem dX5_isBarredClosing_181 : decode cX5_isBarredClosing 181 = .ok (.iload_n 1, 1) := by decide +kernel
theorem dX5_isBarredClosing_182 : decode cX5_isBarredClosing 182 = .ok (.baload, 1) := by decide +kernel
theorem dX5_isBarredClosing_183 : decode cX5_isBarredClosing 183 = .ok (.ifCond .ne 12, 3) := by decide +kernel
theorem dX5_isBarredClosing_186 : decode cX5_isBarredClosing 186 = .ok (.iload 5, 2) := by decide +kernel
theorem dX5_isBarredClosing_188 : decode cX5_isBarredClosing 188 = .ok (.ifCond .ne 7, 3) := by decide +kernel
theorem dX5_isBarredClosing_191 : decode cX5_isBarredClosing 191 = .ok (.iconst 1, 1) := by decide +kernel
theorem dX5_isBarredClosing_192 : decode cX5_isBarredClosing 192 = .ok (.goto 4, 3) := by decide +kernel
theorem dX5_isBarredClosing_195 : decode cX5_isBarredClosing 195 = .ok (.iconst 0, 1) := by decide +kernel
theorem dX5_isBarredClosing_196 : decode cX5_isBarredClosing 196 = .ok (.ireturn, 1) := by decide +kernel
set_option maxRecDepth 20000 in
theorem ggX5_isBarred_X5_isBarredOpening : GoodIn wsX5_isBarred wsX5_isBarredOpening := goodIn_r _ [8, 9, 1, 10, 11, 12, 13, 14, 7, 15, 2, 16, 17, 18, 19, 20, 21, 22, 23, 24, 25, 26, 27, 28, 37, 38, 39, 40, 41, 42, 43, 44, 45, 46, 47, 48, 49, 50, 51, 52, 53, 54, 55] (by decide +kernel) (by decide +kernel)
set_option maxRecDepth 20000 in
theorem gX5_isBarred_X5_isBarredOpening : GoodIn wsX5_isBarred (wsV RX5 88 RX5 yX5_isBarredOpening wsX5_isBarredOpening) := goodIn_app (goodIn_of _ (by decide +kernel)) ggX5_isBarred_X5_isBarredOpening
set_option maxRecDepth 20000 in
theorem ggX5_isBarred_X5_isBarredClosing : GoodIn wsX5_isBarred wsX5_isBarredClosing := goodIn_r _ [32, 9, 1, 2, 10, 3, 11, 17, 18, 19, 7, 20, 21, 22, 23, 24, 25, 26, 27, 28, 33, 34, 35, 36, 12, 13, 14, 15, 16, 37, 38, 39, 40, 41, 42, 43, 44, 45, 46, 47, 48, 49, 50, 51, 52, 53, 54, 55] (by decide +kernel) (by decide +kernel)
set_option maxRecDepth 20000 in
theorem gX5_isBarred_X5_isBarredClosing : GoodIn wsX5_isBarred (wsV RX5 91 RX5 yX5_isBarredClosing wsX5_isBarredClosing) := goodIn_app (goodIn_of _ (by decide +kernel)) ggX5_isBarred_X5_isBarredClosing
set_option maxRecDepth 20000 in
theorem ggX5_isBarred_X5_isLive : GoodIn wsX5_isBarred wsX5_isLive := goodIn_r _ [20, 21, 22, 23, 7, 24, 25, 9, 10, 26, 27, 28, 37, 38, 39, 40, 41, 42, 43, 44, 45, 46, 47, 48, 49, 50, 51, 52, 53, 54, 55] (by decide +kernel) (by decide +kernel)
set_option maxRecDepth 20000 in
theorem gX5_isBarred_X5_isLive : GoodIn wsX5_isBarred (wsV RX5 70 RX5 yX5_isLive wsX5_isLive) := goodIn_app (goodIn_of _ (by decide +kernel)) ggX5_isBarred_X5_isLive
set_option maxRecDepth 20000 in
theorem ggX5_isBarred_X5_isEarthed : GoodIn wsX5_isBarred wsX5_isEarthed := goodIn_r _ [36, 21, 22, 23, 7, 24, 25, 9, 10, 26, 27, 28, 37, 38, 39, 40, 41, 42, 43, 44, 45, 46, 47, 48, 49, 50, 51, 52, 53, 54, 55] (by decide +kernel) (by decide +kernel)
set_option maxRecDepth 20000 in
theorem gX5_isBarred_X5_isEarthed : GoodIn wsX5_isBarred (wsV RX5 85 RX5 yX5_isEarthed wsX5_isEarthed) := goodIn_app (goodIn_of _ (by decide +kernel)) ggX5_isBarred_X5_isEarthed
theorem dX5_isBarred_0 : decode cX5_isBarred 0 = .ok (.iload_n 1, 1) := by decide +kernel
theorem dX5_isBarred_1 : decode cX5_isBarred 1 = .ok (.ifCond .ne 9, 3) := by decide +kernel
theorem dX5_isBarred_4 : decode cX5_isBarred 4 = .ok (.aload_n 0, 1) := by decide +kernel
theorem dX5_isBarred_5 : decode cX5_isBarred 5 = .ok (.iload_n 2, 1) := by decide +kernel
theorem dX5_isBarred_6 : decode cX5_isBarred 6 = .ok (.invokevirtual 88, 3) := by decide +kernel
theorem dX5_isBarred_9 : decode cX5_isBarred 9 = .ok (.ireturn, 1) := by decide +kernel
theorem dX5_isBarred_10 : decode cX5_isBarred 10 = .ok (.iload_n 1, 1) := by decide +kernel
theorem dX5_isBarred_11 : decode cX5_isBarred 11 = .ok (.iconst 1, 1) := by decide +kernel
theorem dX5_isBarred_12 : decode cX5_isBarred 12 = .ok (.if_icmp .ne 9, 3) := by decide +kernel
theorem dX5_isBarred_15 : decode cX5_isBarred 15 = .ok (.aload_n 0, 1) := by decide +kernel
theorem dX5_isBarred_16 : decode cX5_isBarred 16 = .ok (.iload_n 2, 1) := by decide +kernel
theorem dX5_isBarred_17 : decode cX5_isBarred 17 = .ok (.invokevirtual 91, 3) := by decide +kernel
theorem dX5_isBarred_20 : decode cX5_isBarred 20 = .ok (.ireturn, 1) := by decide +kernel
theorem dX5_isBarred_21 : decode cX5_isBarred 21 = .ok (.iload_n 1, 1) := by decide +kernel
theorem dX5_isBarred_22 : decode cX5_isBarred 22 = .ok (.iconst 2, 1) := by decide +kernel
theorem dX5_isBarred_23 : decode cX5_isBarred 23 = .ok (.if_icmp .ne 19, 3) := by decide +kernel
theorem dX5_isBarred_26 : decode cX5_isBarred 26 = .ok (.aload_n 0, 1) := by decide +kernel
theorem dX5_isBarred_27 : decode cX5_isBarred 27 = .ok (.iload_n 2, 1) := by decide +kernel
theorem dX5_isBarred_28 : decode cX5_isBarred 28 = .ok (.aload_n 0, 1) := by decide +kernel
theorem dX5_isBarred_29 : decode cX5_isBarred 29 = .ok (.getfield 76, 3) := by decide +kernel
theorem dX5_isBarred_32 : decode cX5_isBarred 32 = .ok (.aload_n 0, 1) := by decide +kernel
theorem dX5_isBarred_33 : decode cX5_isBarred 33 = .ok (.getfield 67, 3) := by decide +kernel
theorem dX5_isBarred_36 : decode cX5_isBarred 36 = .ok (.invokevirtual 70, 3) := by decide +kernel
theorem dX5_isBarred_39 : decode cX5_isBarred 39 = .ok (.ifCond .ne 24, 3) := by decide +kernel
theorem dX5_isBarred_42 : decode cX5_isBarred 42 = .ok (.iload_n 1, 1) := by decide +kernel
theorem dX5_isBarred_43 : decode cX5_isBarred 43 = .ok (.iconst 4, 1) := by decide +kernel
theorem dX5_isBarred_44 : decode cX5_isBarred 44 = .ok (.if_icmp .ne 23, 3) := by decide +kernel
theorem dX5_isBarred_47 : decode cX5_isBarred 47 = .ok (.aload_n 0, 1) := by decide +kernel
theorem dX5_isBarred_48 : decode cX5_isBarred 48 = .ok (.iload_n 2, 1) := by decide +kernel
theorem dX5_isBarred_49 : decode cX5_isBarred 49 = .ok (.aload_n 0, 1) := by decide +kernel
theorem dX5_isBarred_50 : decode cX5_isBarred 50 = .ok (.getfield 76, 3) := by decide +kernel
theorem dX5_isBarred_53 : decode cX5_isBarred 53 = .ok (.aload_n 0, 1) := by decide +kernel
theorem dX5_isBarred_54 : decode cX5_isBarred 54 = .ok (.getfield 79, 3) := by decide +kernel
theorem dX5_isBarred_57 : decode cX5_isBarred 57 = .ok (.invokevirtual 85, 3) := by decide +kernel
theorem dX5_isBarred_60 : decode cX5_isBarred 60 = .ok (.ifCond .eq 7, 3) := by decide +kernel
theorem dX5_isBarred_63 : decode cX5_isBarred 63 = .ok (.iconst 1, 1) := by decide +kernel
theorem dX5_isBarred_64 : decode cX5_isBarred 64 = .ok (.goto 4, 3) := by decide +kernel
theorem dX5_isBarred_67 : decode cX5_isBarred 67 = .ok (.iconst 0, 1) := by decide +kernel
theorem dX5_isBarred_68 : decode cX5_isBarred 68 = .ok (.ireturn, 1) := by decide +kernel
theorem dX5_does_0 : decode cX5_does 0 = .ok (.iconst 1, 1) := by decide +kernel
theorem dX5_does_1 : decode cX5_does 1 = .ok (.iload_n 2, 1) := by decide +kernel
theorem dX5_does_2 : decode cX5_does 2 = .ok (.ishl, 1) := by decide +kernel
theorem dX5_does_3 : decode cX5_does 3 = .ok (.istore_n 3, 1) := by decide +kernel
theorem dX5_does_4 : decode cX5_does 4 = .ok (.aload_n 0, 1) := by decide +kernel
theorem dX5_does_5 : decode cX5_does 5 = .ok (.iload_n 1, 1) := by decide +kernel
theorem dX5_does_6 : decode cX5_does 6 = .ok (.ifCond .ne 14, 3) := by decide +kernel
theorem dX5_does_9 : decode cX5_does 9 = .ok (.aload_n 0, 1) := by decide +kernel
theorem dX5_does_10 : decode cX5_does 10 = .ok (.getfield 76, 3) := by decide +kernel
theorem dX5_does_13 : decode cX5_does 13 = .ok (.iload_n 3, 1) := by decide +kernel
theorem dX5_does_14 : decode cX5_does 14 = .ok (.iconst (-1), 1) := by decide +kernel
theorem dX5_does_15 : decode cX5_does 15 = .ok (.ixor, 1) := by decide +kernel
theorem dX5_does_16 : decode cX5_does 16 = .ok (.iand, 1) := by decide +kernel
theorem dX5_does_17 : decode cX5_does 17 = .ok (.goto 21, 3) := by decide +kernel
theorem dX5_does_20 : decode cX5_does 20 = .ok (.iload_n 1, 1) := by decide +kernel
theorem dX5_does_21 : decode cX5_does 21 = .ok (.iconst 1, 1) := by decide +kernel
theorem dX5_does_22 : decode cX5_does 22 = .ok (.if_icmp .ne 12, 3) := by decide +kernel
theorem dX5_does_25 : decode cX5_does 25 = .ok (.aload_n 0, 1) := by decide +kernel
theorem dX5_does_26 : decode cX5_does 26 = .ok (.getfield 76, 3) := by decide +kernel
theorem dX5_does_29 : decode cX5_does 29 = .ok (.iload_n 3, 1) := by decide +kernel
theorem dX5_does_30 : decode cX5_does 30 = .ok (.ior, 1) := by decide +kernel
theorem dX5_does_31 : decode cX5_does 31 = .ok (.goto 7, 3) := by decide +kernel
theorem dX5_does_34 : decode cX5_does 34 = .ok (.aload_n 0, 1) := by decide +kernel
theorem dX5_does_35 : decode cX5_does 35 = .ok (.getfield 76, 3) := by decide +kernel
theorem dX5_does_38 : decode cX5_does 38 = .ok (.putfield 76, 3) := by decide +kernel
theorem dX5_does_41 : decode cX5_does 41 = .ok (.aload_n 0, 1) := by decide +kernel
theorem dX5_does_42 : decode cX5_does 42 = .ok (.iload_n 1, 1) := by decide +kernel
theorem dX5_does_43 : decode cX5_does 43 = .ok (.iconst 2, 1) := by decide +kernel
theorem dX5_does_44 : decode cX5_does 44 = .ok (.if_icmp .ne 12, 3) := by decide +kernel
theorem dX5_does_47 : decode cX5_does 47 = .ok (.aload_n 0, 1) := by decide +kernel
theorem dX5_does_48 : decode cX5_does 48 = .ok (.getfield 79, 3) := by decide +kernel
theorem dX5_does_51 : decode cX5_does 51 = .ok (.iload_n 3, 1) := by decide +kernel
theorem dX5_does_52 : decode cX5_does 52 = .ok (.ior, 1) := by decide +kernel
theorem dX5_does_53 : decode cX5_does 53 = .ok (.goto 23, 3) := by decide +kernel
theorem dX5_does_56 : decode cX5_does 56 = .ok (.iload_n 1, 1) := by decide +kernel
theorem dX5_does_57 : decode cX5_does 57 = .ok (.iconst 3, 1) := by decide +kernel
theorem dX5_does_58 : decode cX5_does 58 = .ok (.if_icmp .ne 14, 3) := by decide +kernel
theorem dX5_does_61 : decode cX5_does 61 = .ok (.aload_n 0, 1) := by decide +kernel
theorem dX5_does_62 : decode cX5_does 62 = .ok (.getfield 79, 3) := by decide +kernel
theorem dX5_does_65 : decode cX5_does 65 = .ok (.iload_n 3, 1) := by decide +kernel
theorem dX5_does_66 : decode cX5_does 66 = .ok (.iconst (-1), 1) := by decide +kernel
theorem dX5_does_67 : decode cX5_does 67 = .ok (.ixor, 1) := by decide +kernel
theorem dX5_does_68 : decode cX5_does 68 = .ok (.iand, 1) := by decide +kernel
theorem dX5_does_69 : decode cX5_does 69 = .ok (.goto 7, 3) := by decide +kernel
theorem dX5_does_72 : decode cX5_does 72 = .ok (.aload_n 0, 1) := by decide +kernel
theorem dX5_does_73 : decode cX5_does 73 = .ok (.getfield 79, 3) := by decide +kernel
theorem dX5_does_76 : decode cX5_does 76 = .ok (.putfield 79, 3) := by decide +kernel
theorem dX5_does_79 : decode cX5_does 79 = .ok (.aload_n 0, 1) := by decide +kernel
theorem dX5_does_80 : decode cX5_does 80 = .ok (.iload_n 1, 1) := by decide +kernel
theorem dX5_does_81 : decode cX5_does 81 = .ok (.iconst 4, 1) := by decide +kernel
theorem dX5_does_82 : decode cX5_does 82 = .ok (.if_icmp .ne 12, 3) := by decide +kernel
theorem dX5_does_85 : decode cX5_does 85 = .ok (.aload_n 0, 1) := by decide +kernel
theorem dX5_does_86 : decode cX5_does 86 = .ok (.getfield 67, 3) := by decide +kernel
theorem dX5_does_89 : decode cX5_does 89 = .ok (.iload_n 3, 1) := by decide +kernel
theorem dX5_does_90 : decode cX5_does 90 = .ok (.ior, 1) := by decide +kernel
theorem dX5_does_91 : decode cX5_does 91 = .ok (.goto 23, 3) := by decide +kernel
theorem dX5_does_94 : decode cX5_does 94 = .ok (.iload_n 1, 1) := by decide +kernel
theorem dX5_does_95 : decode cX5_does 95 = .ok (.iconst 5, 1) := by decide +kernel
theorem dX5_does_96 : decode cX5_does 96 = .ok (.if_icmp .ne 14, 3) := by decide +kernel
theorem dX5_does_99 : decode cX5_does 99 = .ok (.aload_n 0, 1) := by decide +kernel
theorem dX5_does_100 : decode cX5_does 100 = .ok (.getfield 67, 3) := by decide +kernel
theorem dX5_does_103 : decode cX5_does 103 = .ok (.iload_n 3, 1) := by decide +kernel
theorem dX5_does_104 : decode cX5_does 104 = .ok (.iconst (-1), 1) := by decide +kernel
theorem dX5_does_105 : decode cX5_does 105 = .ok (.ixor, 1) := by decide +kernel
theorem dX5_does_106 : decode cX5_does 106 = .ok (.iand, 1) := by decide +kernel
theorem dX5_does_107 : decode cX5_does 107 = .ok (.goto 7, 3) := by decide +kernel
theorem dX5_does_110 : decode cX5_does 110 = .ok (.aload_n 0, 1) := by decide +kernel
theorem dX5_does_111 : decode cX5_does 111 = .ok (.getfield 67, 3) := by decide +kernel
theorem dX5_does_114 : decode cX5_does 114 = .ok (.putfield 67, 3) := by decide +kernel
theorem dX5_does_117 : decode cX5_does 117 = .ok (.return_, 1) := by decide +kernel
set_option maxRecDepth 20000 in
theorem ggX5_areHeldSafe_X5_heldNow : GoodIn wsX5_areHeldSafe wsX5_heldNow := goodIn_r _ [9, 10, 11, 12, 31, 32, 33, 34, 35, 36, 37, 38, 39, 40, 41, 42, 43, 44, 45, 46, 47, 48, 49] (by decide +kernel) (by decide +kernel)
set_option maxRecDepth 20000 in
theorem gX5_areHeldSafe_X5_heldNow : GoodIn wsX5_areHeldSafe (wsV RX5 94 RX5 yX5_heldNow wsX5_heldNow) := goodIn_app (goodIn_of _ (by decide +kernel)) ggX5_areHeldSafe_X5_heldNow
set_option maxRecDepth 20000 in
theorem ggX5_areHeldSafe_X5_has : GoodIn wsX5_areHeldSafe wsX5_has := goodIn_r _ [15] (by decide +kernel) (by decide +kernel)
set_option maxRecDepth 20000 in
theorem gX5_areHeldSafe_X5_has : GoodIn wsX5_areHeldSafe (va_wsS RX5 59 yX5_has wsX5_has) := goodIn_app (goodIn_of _ (by decide +kernel)) ggX5_areHeldSafe_X5_has
set_option maxRecDepth 20000 in
theorem ggX5_areHeldSafe_X5_isEarthed : GoodIn wsX5_areHeldSafe wsX5_isEarthed := goodIn_r _ [19, 20, 21, 22, 8, 23, 24, 25, 26, 13, 14, 15, 31, 32, 33, 34, 35, 36, 37, 38, 39, 40, 41, 42, 43, 44, 45, 46, 47, 48, 49] (by decide +kernel) (by decide +kernel)
set_option maxRecDepth 20000 in
theorem gX5_areHeldSafe_X5_isEarthed : GoodIn wsX5_areHeldSafe (wsV RX5 85 RX5 yX5_isEarthed wsX5_isEarthed) := goodIn_app (goodIn_of _ (by decide +kernel)) ggX5_areHeldSafe_X5_isEarthed
set_option maxRecDepth 20000 in
theorem ggX5_areHeldSafe_X5_isLive : GoodIn wsX5_areHeldSafe wsX5_isLive := goodIn_r _ [30, 20, 21, 22, 8, 23, 24, 25, 26, 13, 14, 15, 31, 32, 33, 34, 35, 36, 37, 38, 39, 40, 41, 42, 43, 44, 45, 46, 47, 48, 49] (by decide +kernel) (by decide +kernel)
set_option maxRecDepth 20000 in
theorem gX5_areHeldSafe_X5_isLive : GoodIn wsX5_areHeldSafe (wsV RX5 70 RX5 yX5_isLive wsX5_isLive) := goodIn_app (goodIn_of _ (by decide +kernel)) ggX5_areHeldSafe_X5_isLive
theorem dX5_areHeldSafe_0 : decode cX5_areHeldSafe 0 = .ok (.iconst 1, 1) := by decide +kernel
theorem dX5_areHeldSafe_1 : decode cX5_areHeldSafe 1 = .ok (.istore_n 1, 1) := by decide +kernel
theorem dX5_areHeldSafe_2 : decode cX5_areHeldSafe 2 = .ok (.iconst 0, 1) := by decide +kernel
theorem dX5_areHeldSafe_3 : decode cX5_areHeldSafe 3 = .ok (.istore_n 2, 1) := by decide +kernel
theorem dX5_areHeldSafe_4 : decode cX5_areHeldSafe 4 = .ok (.iload_n 2, 1) := by decide +kernel
theorem dX5_areHeldSafe_5 : decode cX5_areHeldSafe 5 = .ok (.aload_n 0, 1) := by decide +kernel
theorem dX5_areHeldSafe_6 : decode cX5_areHeldSafe 6 = .ok (.getfield 39, 3) := by decide +kernel
theorem dX5_areHeldSafe_9 : decode cX5_areHeldSafe 9 = .ok (.if_icmp .ge 62, 3) := by decide +kernel
theorem dX5_areHeldSafe_12 : decode cX5_areHeldSafe 12 = .ok (.iload_n 1, 1) := by decide +kernel
theorem dX5_areHeldSafe_13 : decode cX5_areHeldSafe 13 = .ok (.ifCond .eq 50, 3) := by decide +kernel
theorem dX5_areHeldSafe_16 : decode cX5_areHeldSafe 16 = .ok (.aload_n 0, 1) := by decide +kernel
theorem dX5_areHeldSafe_17 : decode cX5_areHeldSafe 17 = .ok (.invokevirtual 94, 3) := by decide +kernel
theorem dX5_areHeldSafe_20 : decode cX5_areHeldSafe 20 = .ok (.iload_n 2, 1) := by decide +kernel
theorem dX5_areHeldSafe_21 : decode cX5_areHeldSafe 21 = .ok (.invokestatic 59, 3) := by decide +kernel
theorem dX5_areHeldSafe_24 : decode cX5_areHeldSafe 24 = .ok (.ifCond .eq 35, 3) := by decide +kernel
theorem dX5_areHeldSafe_27 : decode cX5_areHeldSafe 27 = .ok (.aload_n 0, 1) := by decide +kernel
theorem dX5_areHeldSafe_28 : decode cX5_areHeldSafe 28 = .ok (.iload_n 2, 1) := by decide +kernel
theorem dX5_areHeldSafe_29 : decode cX5_areHeldSafe 29 = .ok (.aload_n 0, 1) := by decide +kernel
theorem dX5_areHeldSafe_30 : decode cX5_areHeldSafe 30 = .ok (.getfield 76, 3) := by decide +kernel
theorem dX5_areHeldSafe_33 : decode cX5_areHeldSafe 33 = .ok (.aload_n 0, 1) := by decide +kernel
theorem dX5_areHeldSafe_34 : decode cX5_areHeldSafe 34 = .ok (.getfield 79, 3) := by decide +kernel
theorem dX5_areHeldSafe_37 : decode cX5_areHeldSafe 37 = .ok (.invokevirtual 85, 3) := by decide +kernel
theorem dX5_areHeldSafe_40 : decode cX5_areHeldSafe 40 = .ok (.ifCond .eq 23, 3) := by decide +kernel
theorem dX5_areHeldSafe_43 : decode cX5_areHeldSafe 43 = .ok (.aload_n 0, 1) := by decide +kernel
theorem dX5_areHeldSafe_44 : decode cX5_areHeldSafe 44 = .ok (.iload_n 2, 1) := by decide +kernel
theorem dX5_areHeldSafe_45 : decode cX5_areHeldSafe 45 = .ok (.aload_n 0, 1) := by decide +kernel
theorem dX5_areHeldSafe_46 : decode cX5_areHeldSafe 46 = .ok (.getfield 76, 3) := by decide +kernel
theorem dX5_areHeldSafe_49 : decode cX5_areHeldSafe 49 = .ok (.aload_n 0, 1) := by decide +kernel
theorem dX5_areHeldSafe_50 : decode cX5_areHeldSafe 50 = .ok (.getfield 67, 3) := by decide +kernel
theorem dX5_areHeldSafe_53 : decode cX5_areHeldSafe 53 = .ok (.invokevirtual 70, 3) := by decide +kernel
theorem dX5_areHeldSafe_56 : decode cX5_areHeldSafe 56 = .ok (.ifCond .ne 7, 3) := by decide +kernel
theorem dX5_areHeldSafe_59 : decode cX5_areHeldSafe 59 = .ok (.iconst 1, 1) := by decide +kernel
theorem dX5_areHeldSafe_60 : decode cX5_areHeldSafe 60 = .ok (.goto 4, 3) := by decide +kernel
theorem dX5_areHeldSafe_63 : decode cX5_areHeldSafe 63 = .ok (.iconst 0, 1) := by decide +kernel
theorem dX5_areHeldSafe_64 : decode cX5_areHeldSafe 64 = .ok (.istore_n 1, 1) := by decide +kernel
theorem dX5_areHeldSafe_65 : decode cX5_areHeldSafe 65 = .ok (.iinc 2 1, 3) := by decide +kernel
theorem dX5_areHeldSafe_68 : decode cX5_areHeldSafe 68 = .ok (.goto (-64), 3) := by decide +kernel
theorem dX5_areHeldSafe_71 : decode cX5_areHeldSafe 71 = .ok (.iload_n 1, 1) := by decide +kernel
theorem dX5_areHeldSafe_72 : decode cX5_areHeldSafe 72 = .ok (.ireturn, 1) := by decide +kernel
set_option maxRecDepth 20000 in
theorem ggX5_isSafe_X5_does : GoodIn wsX5_isSafe wsX5_does := goodIn_r _ [8, 1, 2, 3, 39, 40, 41, 42, 43, 44, 45, 46, 47, 48, 49, 50, 51, 52, 53, 54, 55, 56, 57] (by decide +kernel) (by decide +kernel)
set_option maxRecDepth 20000 in
theorem gX5_isSafe_X5_does : GoodIn wsX5_isSafe (wsV RX5 98 RX5 yX5_does wsX5_does) := goodIn_app (goodIn_of _ (by decide +kernel)) ggX5_isSafe_X5_does
set_option maxRecDepth 20000 in
theorem ggX5_isSafe_X5_areHeldSafe : GoodIn wsX5_isSafe wsX5_areHeldSafe := goodIn_r _ [12, 13, 1, 2, 3, 14, 15, 16, 7, 17, 18, 19, 20, 21, 22, 23, 24, 25, 26, 27, 28, 29, 30, 31, 32, 33, 34, 35, 36, 37, 38, 39, 40, 41, 42, 43, 44, 45, 46, 47, 48, 49, 50, 51, 52, 53, 54, 55, 56, 57] (by decide +kernel) (by decide +kernel)
set_option maxRecDepth 20000 in
theorem gX5_isSafe_X5_areHeldSafe : GoodIn wsX5_isSafe (wsV RX5 102 RX5 yX5_areHeldSafe wsX5_areHeldSafe) := goodIn_app (goodIn_of _ (by decide +kernel)) ggX5_isSafe_X5_areHeldSafe
theorem dX5_isSafe_0 : decode cX5_isSafe 0 = .ok (.aload_n 0, 1) := by decide +kernel
theorem dX5_isSafe_1 : decode cX5_isSafe 1 = .ok (.getfield 76, 3) := by decide +kernel
theorem dX5_isSafe_4 : decode cX5_isSafe 4 = .ok (.istore_n 3, 1) := by decide +kernel
theorem dX5_isSafe_5 : decode cX5_isSafe 5 = .ok (.aload_n 0, 1) := by decide +kernel
theorem dX5_isSafe_6 : decode cX5_isSafe 6 = .ok (.getfield 79, 3) := by decide +kernel
theorem dX5_isSafe_9 : decode cX5_isSafe 9 = .ok (.istore 4, 2) := by decide +kernel
theorem dX5_isSafe_11 : decode cX5_isSafe 11 = .ok (.aload_n 0, 1) := by decide +kernel
theorem dX5_isSafe_12 : decode cX5_isSafe 12 = .ok (.getfield 67, 3) := by decide +kernel
theorem dX5_isSafe_15 : decode cX5_isSafe 15 = .ok (.istore 5, 2) := by decide +kernel
theorem dX5_isSafe_17 : decode cX5_isSafe 17 = .ok (.aload_n 0, 1) := by decide +kernel
theorem dX5_isSafe_18 : decode cX5_isSafe 18 = .ok (.iload_n 1, 1) := by decide +kernel
theorem dX5_isSafe_19 : decode cX5_isSafe 19 = .ok (.iload_n 2, 1) := by decide +kernel
theorem dX5_isSafe_20 : decode cX5_isSafe 20 = .ok (.invokevirtual 98, 3) := by decide +kernel
theorem dX5_isSafe_23 : decode cX5_isSafe 23 = .ok (.aload_n 0, 1) := by decide +kernel
theorem dX5_isSafe_24 : decode cX5_isSafe 24 = .ok (.invokevirtual 102, 3) := by decide +kernel
theorem dX5_isSafe_27 : decode cX5_isSafe 27 = .ok (.istore 6, 2) := by decide +kernel
theorem dX5_isSafe_29 : decode cX5_isSafe 29 = .ok (.aload_n 0, 1) := by decide +kernel
theorem dX5_isSafe_30 : decode cX5_isSafe 30 = .ok (.iload_n 3, 1) := by decide +kernel
theorem dX5_isSafe_31 : decode cX5_isSafe 31 = .ok (.putfield 76, 3) := by decide +kernel
theorem dX5_isSafe_34 : decode cX5_isSafe 34 = .ok (.aload_n 0, 1) := by decide +kernel
theorem dX5_isSafe_35 : decode cX5_isSafe 35 = .ok (.iload 4, 2) := by decide +kernel
theorem dX5_isSafe_37 : decode cX5_isSafe 37 = .ok (.putfield 79, 3) := by decide +kernel
theorem dX5_isSafe_40 : decode cX5_isSafe 40 = .ok (.aload_n 0, 1) := by decide +kernel
theorem dX5_isSafe_41 : decode cX5_isSafe 41 = .ok (.iload 5, 2) := by decide +kernel
theorem dX5_isSafe_43 : decode cX5_isSafe 43 = .ok (.putfield 67, 3) := by decide +kernel
theorem dX5_isSafe_46 : decode cX5_isSafe 46 = .ok (.iload 6, 2) := by decide +kernel
theorem dX5_isSafe_48 : decode cX5_isSafe 48 = .ok (.ireturn, 1) := by decide +kernel
set_option maxRecDepth 20000 in
theorem ggX5_why_X5_isReady : GoodIn wsX5_why wsX5_isReady := goodIn_r _ [5, 6, 7, 8, 9, 10, 11, 4, 12, 70, 71, 72, 73, 74, 75, 76, 77, 78, 79, 80, 81, 82, 83, 84, 85, 86, 87, 88] (by decide +kernel) (by decide +kernel)
set_option maxRecDepth 20000 in
theorem gX5_why_X5_isReady : GoodIn wsX5_why (wsV RX5 106 RX5 yX5_isReady wsX5_isReady) := goodIn_app (goodIn_of _ (by decide +kernel)) ggX5_why_X5_isReady
set_option maxRecDepth 20000 in
theorem ggX5_why_X5_touched : GoodIn wsX5_why wsX5_touched := goodIn_r _ [16, 17, 18, 70, 71, 72, 73, 74, 75, 76, 77, 78, 79, 80, 81, 82, 83, 84, 85, 86, 87, 88] (by decide +kernel) (by decide +kernel)
set_option maxRecDepth 20000 in
theorem gX5_why_X5_touched : GoodIn wsX5_why (wsV RX5 109 RX5 yX5_touched wsX5_touched) := goodIn_app (goodIn_of _ (by decide +kernel)) ggX5_why_X5_touched
set_option maxRecDepth 20000 in
theorem ggX5_why_X5_heldNow : GoodIn wsX5_why wsX5_heldNow := goodIn_r _ [22, 23, 24, 25, 70, 71, 72, 73, 74, 75, 76, 77, 78, 79, 80, 81, 82, 83, 84, 85, 86, 87, 88] (by decide +kernel) (by decide +kernel)
set_option maxRecDepth 20000 in
theorem gX5_why_X5_heldNow : GoodIn wsX5_why (wsV RX5 94 RX5 yX5_heldNow wsX5_heldNow) := goodIn_app (goodIn_of _ (by decide +kernel)) ggX5_why_X5_heldNow
set_option maxRecDepth 20000 in
theorem ggX5_why_X5_isBarred : GoodIn wsX5_why wsX5_isBarred := goodIn_r _ [29, 6, 9, 7, 30, 31, 32, 4, 33, 17, 18, 34, 35, 36, 37, 38, 39, 40, 41, 42, 43, 44, 45, 46, 47, 48, 10, 11, 12, 49, 50, 51, 52, 53, 54, 55, 56, 70, 71, 72, 73, 74, 75, 76, 77, 78, 79, 80, 81, 82, 83, 84, 85, 86, 87, 88] (by decide +kernel) (by decide +kernel)
set_option maxRecDepth 20000 in
theorem gX5_why_X5_isBarred : GoodIn wsX5_why (wsV RX5 112 RX5 yX5_isBarred wsX5_isBarred) := goodIn_app (goodIn_of _ (by decide +kernel)) ggX5_why_X5_isBarred
set_option maxRecDepth 20000 in
theorem ggX5_why_X5_isSafe : GoodIn wsX5_why wsX5_isSafe := goodIn_r _ [60, 6, 7, 9, 61, 62, 63, 4, 64, 65, 66, 67, 68, 69, 19, 20, 21, 22, 23, 24, 25, 10, 11, 12, 53, 54, 55, 56, 44, 45, 46, 47, 48, 17, 18, 40, 41, 42, 43, 70, 71, 72, 73, 74, 75, 76, 77, 78, 79, 80, 81, 82, 83, 84, 85, 86, 87, 88] (by decide +kernel) (by decide +kernel)
set_option maxRecDepth 20000 in
theorem gX5_why_X5_isSafe : GoodIn wsX5_why (wsV RX5 115 RX5 yX5_isSafe wsX5_isSafe) := goodIn_app (goodIn_of _ (by decide +kernel)) ggX5_why_X5_isSafe
theorem dX5_why_0 : decode cX5_why 0 = .ok (.aload_n 0, 1) := by decide +kernel
theorem dX5_why_1 : decode cX5_why 1 = .ok (.iload_n 1, 1) := by decide +kernel
theorem dX5_why_2 : decode cX5_why 2 = .ok (.iload_n 2, 1) := by decide +kernel
theorem dX5_why_3 : decode cX5_why 3 = .ok (.invokevirtual 106, 3) := by decide +kernel
theorem dX5_why_6 : decode cX5_why 6 = .ok (.ifCond .ne 5, 3) := by decide +kernel
theorem dX5_why_9 : decode cX5_why 9 = .ok (.iconst 1, 1) := by decide +kernel
theorem dX5_why_10 : decode cX5_why 10 = .ok (.ireturn, 1) := by decide +kernel
theorem dX5_why_11 : decode cX5_why 11 = .ok (.aload_n 0, 1) := by decide +kernel
theorem dX5_why_12 : decode cX5_why 12 = .ok (.iload_n 1, 1) := by decide +kernel
theorem dX5_why_13 : decode cX5_why 13 = .ok (.iload_n 2, 1) := by decide +kernel
theorem dX5_why_14 : decode cX5_why 14 = .ok (.invokevirtual 109, 3) := by decide +kernel
theorem dX5_why_17 : decode cX5_why 17 = .ok (.aload_n 0, 1) := by decide +kernel
theorem dX5_why_18 : decode cX5_why 18 = .ok (.invokevirtual 94, 3) := by decide +kernel
theorem dX5_why_21 : decode cX5_why 21 = .ok (.iand, 1) := by decide +kernel
theorem dX5_why_22 : decode cX5_why 22 = .ok (.ifCond .eq 5, 3) := by decide +kernel
theorem dX5_why_25 : decode cX5_why 25 = .ok (.iconst 2, 1) := by decide +kernel
theorem dX5_why_26 : decode cX5_why 26 = .ok (.ireturn, 1) := by decide +kernel
theorem dX5_why_27 : decode cX5_why 27 = .ok (.aload_n 0, 1) := by decide +kernel
theorem dX5_why_28 : decode cX5_why 28 = .ok (.iload_n 1, 1) := by decide +kernel
theorem dX5_why_29 : decode cX5_why 29 = .ok (.iload_n 2, 1) := by decide +kernel
theorem dX5_why_30 : decode cX5_why 30 = .ok (.invokevirtual 112, 3) := by decide +kernel
theorem dX5_why_33 : decode cX5_why 33 = .ok (.ifCond .eq 7, 3) := by decide +kernel
theorem dX5_why_36 : decode cX5_why 36 = .ok (.iconst 3, 1) := by decide +kernel
theorem dX5_why_37 : decode cX5_why 37 = .ok (.goto 17, 3) := by decide +kernel
theorem dX5_why_40 : decode cX5_why 40 = .ok (.aload_n 0, 1) := by decide +kernel
theorem dX5_why_41 : decode cX5_why 41 = .ok (.iload_n 1, 1) := by decide +kernel
theorem dX5_why_42 : decode cX5_why 42 = .ok (.iload_n 2, 1) := by decide +kernel
theorem dX5_why_43 : decode cX5_why 43 = .ok (.invokevirtual 115, 3) := by decide +kernel
theorem dX5_why_46 : decode cX5_why 46 = .ok (.ifCond .eq 7, 3) := by decide +kernel
theorem dX5_why_49 : decode cX5_why 49 = .ok (.iconst 0, 1) := by decide +kernel
theorem dX5_why_50 : decode cX5_why 50 = .ok (.goto 4, 3) := by decide +kernel
theorem dX5_why_53 : decode cX5_why 53 = .ok (.iconst 4, 1) := by decide +kernel
theorem dX5_why_54 : decode cX5_why 54 = .ok (.ireturn, 1) := by decide +kernel
set_option maxRecDepth 20000 in
theorem ggX5_asks_X5_in : GoodIn wsX5_asks wsX5_in := goodIn_r _ [5] (by decide +kernel) (by decide +kernel)
set_option maxRecDepth 20000 in
theorem gX5_asks_X5_in : GoodIn wsX5_asks (va_wsS RX5 42 yX5_in wsX5_in) := goodIn_app (goodIn_of _ (by decide +kernel)) ggX5_asks_X5_in
set_option maxRecDepth 20000 in
theorem ggX5_asks_X5_isSwitch : GoodIn wsX5_asks wsX5_isSwitch := goodIn_r _ [9, 10, 2, 3, 4, 5, 16, 17, 18, 19, 20, 21, 22, 23, 24, 25, 26, 27, 28, 29, 30, 31, 32, 33, 34] (by decide +kernel) (by decide +kernel)
set_option maxRecDepth 20000 in
theorem gX5_asks_X5_isSwitch : GoodIn wsX5_asks (wsV RX5 118 RX5 yX5_isSwitch wsX5_isSwitch) := goodIn_app (goodIn_of _ (by decide +kernel)) ggX5_asks_X5_isSwitch
set_option maxRecDepth 20000 in
theorem ggX5_asks_X5_isNode : GoodIn wsX5_asks wsX5_isNode := goodIn_r _ [14, 15, 2, 3, 4, 5, 16, 17, 18, 19, 20, 21, 22, 23, 24, 25, 26, 27, 28, 29, 30, 31, 32, 33, 34] (by decide +kernel) (by decide +kernel)
set_option maxRecDepth 20000 in
theorem gX5_asks_X5_isNode : GoodIn wsX5_asks (wsV RX5 55 RX5 yX5_isNode wsX5_isNode) := goodIn_app (goodIn_of _ (by decide +kernel)) ggX5_asks_X5_isNode
theorem dX5_asks_0 : decode cX5_asks 0 = .ok (.aload_n 0, 1) := by decide +kernel
theorem dX5_asks_1 : decode cX5_asks 1 = .ok (.iload_n 1, 1) := by decide +kernel
theorem dX5_asks_2 : decode cX5_asks 2 = .ok (.iconst 0, 1) := by decide +kernel
theorem dX5_asks_3 : decode cX5_asks 3 = .ok (.iconst 5, 1) := by decide +kernel
theorem dX5_asks_4 : decode cX5_asks 4 = .ok (.invokestatic 42, 3) := by decide +kernel
theorem dX5_asks_7 : decode cX5_asks 7 = .ok (.ifCond .ne 7, 3) := by decide +kernel
theorem dX5_asks_10 : decode cX5_asks 10 = .ok (.iconst 1, 1) := by decide +kernel
theorem dX5_asks_11 : decode cX5_asks 11 = .ok (.goto 32, 3) := by decide +kernel
theorem dX5_asks_14 : decode cX5_asks 14 = .ok (.iload_n 1, 1) := by decide +kernel
theorem dX5_asks_15 : decode cX5_asks 15 = .ok (.iconst 2, 1) := by decide +kernel
theorem dX5_asks_16 : decode cX5_asks 16 = .ok (.if_icmp .ge 14, 3) := by decide +kernel
theorem dX5_asks_19 : decode cX5_asks 19 = .ok (.aload_n 0, 1) := by decide +kernel
theorem dX5_asks_20 : decode cX5_asks 20 = .ok (.iload_n 2, 1) := by decide +kernel
theorem dX5_asks_21 : decode cX5_asks 21 = .ok (.invokevirtual 118, 3) := by decide +kernel
theorem dX5_asks_24 : decode cX5_asks 24 = .ok (.ifCond .eq 18, 3) := by decide +kernel
theorem dX5_asks_27 : decode cX5_asks 27 = .ok (.goto 11, 3) := by decide +kernel
theorem dX5_asks_30 : decode cX5_asks 30 = .ok (.aload_n 0, 1) := by decide +kernel
theorem dX5_asks_31 : decode cX5_asks 31 = .ok (.iload_n 2, 1) := by decide +kernel
theorem dX5_asks_32 : decode cX5_asks 32 = .ok (.invokevirtual 55, 3) := by decide +kernel
theorem dX5_asks_35 : decode cX5_asks 35 = .ok (.ifCond .eq 7, 3) := by decide +kernel
theorem dX5_asks_38 : decode cX5_asks 38 = .ok (.iconst 0, 1) := by decide +kernel
theorem dX5_asks_39 : decode cX5_asks 39 = .ok (.goto 4, 3) := by decide +kernel
theorem dX5_asks_42 : decode cX5_asks 42 = .ok (.iconst 2, 1) := by decide +kernel
theorem dX5_asks_43 : decode cX5_asks 43 = .ok (.putfield 35, 3) := by decide +kernel
theorem dX5_asks_46 : decode cX5_asks 46 = .ok (.aload_n 0, 1) := by decide +kernel
theorem dX5_asks_47 : decode cX5_asks 47 = .ok (.getfield 35, 3) := by decide +kernel
theorem dX5_asks_50 : decode cX5_asks 50 = .ok (.ifCond .ne 7, 3) := by decide +kernel
theorem dX5_asks_53 : decode cX5_asks 53 = .ok (.iconst 1, 1) := by decide +kernel
theorem dX5_asks_54 : decode cX5_asks 54 = .ok (.goto 4, 3) := by decide +kernel
theorem dX5_asks_57 : decode cX5_asks 57 = .ok (.iconst 0, 1) := by decide +kernel
theorem dX5_asks_58 : decode cX5_asks 58 = .ok (.ireturn, 1) := by decide +kernel
set_option maxRecDepth 20000 in
theorem ggX5_acts_X5_why : GoodIn wsX5_acts wsX5_why := goodIn_r _ [7, 8, 9, 10, 6, 11, 12, 13, 14, 15, 16, 17, 18, 19, 20, 21, 22, 23, 24, 25, 26, 27, 28, 29, 30, 31, 32, 33, 34, 35, 36, 37, 38, 39, 40, 41, 42, 43, 44, 45, 46, 47, 48, 49, 50, 51, 52, 53, 54, 55, 56, 57, 58, 59, 60, 61, 62, 63, 64, 65, 66, 67, 68, 69, 70, 71, 72, 73, 74, 75, 76, 77, 78, 79, 80, 81, 82, 83, 84, 85, 86, 87, 88, 89, 90, 91, 92, 93, 94] (by decide +kernel) (by decide +kernel)
set_option maxRecDepth 20000 in
theorem gX5_acts_X5_why : GoodIn wsX5_acts (wsV RX5 121 RX5 yX5_why wsX5_why) := goodIn_app (goodIn_of _ (by decide +kernel)) ggX5_acts_X5_why
set_option maxRecDepth 20000 in
theorem ggX5_acts_X5_does : GoodIn wsX5_acts wsX5_does := goodIn_r _ [70, 12, 13, 15, 76, 77, 78, 79, 80, 81, 82, 83, 84, 85, 86, 87, 88, 89, 90, 91, 92, 93, 94] (by decide +kernel) (by decide +kernel)
set_option maxRecDepth 20000 in
theorem gX5_acts_X5_does : GoodIn wsX5_acts (wsV RX5 98 RX5 yX5_does wsX5_does) := goodIn_app (goodIn_of _ (by decide +kernel)) ggX5_acts_X5_does
theorem dX5_acts_0 : decode cX5_acts 0 = .ok (.aload_n 0, 1) := by decide +kernel
theorem dX5_acts_1 : decode cX5_acts 1 = .ok (.iload_n 1, 1) := by decide +kernel
theorem dX5_acts_2 : decode cX5_acts 2 = .ok (.iload_n 2, 1) := by decide +kernel
theorem dX5_acts_3 : decode cX5_acts 3 = .ok (.invokevirtual 121, 3) := by decide +kernel
theorem dX5_acts_6 : decode cX5_acts 6 = .ok (.istore_n 3, 1) := by decide +kernel
theorem dX5_acts_7 : decode cX5_acts 7 = .ok (.iload_n 3, 1) := by decide +kernel
theorem dX5_acts_8 : decode cX5_acts 8 = .ok (.ifCond .ne 34, 3) := by decide +kernel
theorem dX5_acts_11 : decode cX5_acts 11 = .ok (.aload_n 0, 1) := by decide +kernel
theorem dX5_acts_12 : decode cX5_acts 12 = .ok (.iload_n 1, 1) := by decide +kernel
theorem dX5_acts_13 : decode cX5_acts 13 = .ok (.iload_n 2, 1) := by decide +kernel
theorem dX5_acts_14 : decode cX5_acts 14 = .ok (.invokevirtual 98, 3) := by decide +kernel
theorem dX5_acts_17 : decode cX5_acts 17 = .ok (.aload_n 0, 1) := by decide +kernel
theorem dX5_acts_18 : decode cX5_acts 18 = .ok (.getfield 20, 3) := by decide +kernel
theorem dX5_acts_21 : decode cX5_acts 21 = .ok (.aload_n 0, 1) := by decide +kernel
theorem dX5_acts_22 : decode cX5_acts 22 = .ok (.getfield 124, 3) := by decide +kernel
theorem dX5_acts_25 : decode cX5_acts 25 = .ok (.bipush 100, 2) := by decide +kernel
theorem dX5_acts_27 : decode cX5_acts 27 = .ok (.iload_n 1, 1) := by decide +kernel
theorem dX5_acts_28 : decode cX5_acts 28 = .ok (.imul, 1) := by decide +kernel
theorem dX5_acts_29 : decode cX5_acts 29 = .ok (.iload_n 2, 1) := by decide +kernel
theorem dX5_acts_30 : decode cX5_acts 30 = .ok (.iadd, 1) := by decide +kernel
theorem dX5_acts_31 : decode cX5_acts 31 = .ok (.iastore, 1) := by decide +kernel
theorem dX5_acts_32 : decode cX5_acts 32 = .ok (.aload_n 0, 1) := by decide +kernel
theorem dX5_acts_33 : decode cX5_acts 33 = .ok (.dup, 1) := by decide +kernel
theorem dX5_acts_34 : decode cX5_acts 34 = .ok (.getfield 124, 3) := by decide +kernel
theorem dX5_acts_37 : decode cX5_acts 37 = .ok (.iconst 1, 1) := by decide +kernel
theorem dX5_acts_38 : decode cX5_acts 38 = .ok (.iadd, 1) := by decide +kernel
theorem dX5_acts_39 : decode cX5_acts 39 = .ok (.putfield 124, 3) := by decide +kernel
theorem dX5_acts_42 : decode cX5_acts 42 = .ok (.iload_n 3, 1) := by decide +kernel
theorem dX5_acts_43 : decode cX5_acts 43 = .ok (.ireturn, 1) := by decide +kernel
set_option maxRecDepth 20000 in
theorem ggX5_act_X5_asks : GoodIn wsX5_act wsX5_asks := goodIn_r _ [7, 2, 8, 9, 6, 10, 11, 12, 13, 14, 15, 16, 17, 18, 19, 20, 96, 97, 98, 99, 100, 101, 102, 103, 104, 105, 106, 107, 108, 109, 110, 111, 112, 113, 114] (by decide +kernel) (by decide +kernel)
set_option maxRecDepth 20000 in
theorem gX5_act_X5_asks : GoodIn wsX5_act (wsV RX5 127 RX5 yX5_asks wsX5_asks) := goodIn_app (goodIn_of _ (by decide +kernel)) ggX5_act_X5_asks
set_option maxRecDepth 20000 in
theorem ggX5_act_X5_acts : GoodIn wsX5_act wsX5_acts := goodIn_r _ [24, 25, 1, 26, 27, 28, 6, 29, 30, 31, 32, 33, 34, 35, 36, 37, 38, 39, 40, 41, 42, 43, 44, 45, 46, 47, 48, 49, 50, 51, 52, 53, 54, 55, 56, 57, 58, 59, 60, 61, 62, 63, 64, 65, 66, 67, 68, 69, 70, 71, 72, 73, 74, 75, 15, 76, 77, 78, 79, 80, 81, 82, 83, 84, 85, 86, 87, 88, 89, 90, 91, 92, 93, 94, 95, 20, 96, 97, 98, 99, 100, 101, 102, 103, 104, 105, 106, 107, 108, 109, 110, 111, 112, 113, 114] (by decide +kernel) (by decide +kernel)
set_option maxRecDepth 20000 in
theorem gX5_act_X5_acts : GoodIn wsX5_act (wsV RX5 130 RX5 yX5_acts wsX5_acts) := goodIn_app (goodIn_of _ (by decide +kernel)) ggX5_act_X5_acts
theorem dX5_act_0 : decode cX5_act 0 = .ok (.aload_n 0, 1) := by decide +kernel
theorem dX5_act_1 : decode cX5_act 1 = .ok (.iload_n 1, 1) := by decide +kernel
theorem dX5_act_2 : decode cX5_act 2 = .ok (.iload_n 2, 1) := by decide +kernel
theorem dX5_act_3 : decode cX5_act 3 = .ok (.invokevirtual 127, 3) := by decide +kernel
theorem dX5_act_6 : decode cX5_act 6 = .ok (.ifCond .eq 22, 3) := by decide +kernel
theorem dX5_act_9 : decode cX5_act 9 = .ok (.aload_n 0, 1) := by decide +kernel
theorem dX5_act_10 : decode cX5_act 10 = .ok (.aload_n 0, 1) := by decide +kernel
theorem dX5_act_11 : decode cX5_act 11 = .ok (.getfield 124, 3) := by decide +kernel
theorem dX5_act_14 : decode cX5_act 14 = .ok (.sipush 200, 3) := by decide +kernel
theorem dX5_act_17 : decode cX5_act 17 = .ok (.if_icmp .ne 7, 3) := by decide +kernel
theorem dX5_act_20 : decode cX5_act 20 = .ok (.iconst 3, 1) := by decide +kernel
theorem dX5_act_21 : decode cX5_act 21 = .ok (.goto 4, 3) := by decide +kernel
theorem dX5_act_24 : decode cX5_act 24 = .ok (.iconst 0, 1) := by decide +kernel
theorem dX5_act_25 : decode cX5_act 25 = .ok (.putfield 35, 3) := by decide +kernel
theorem dX5_act_28 : decode cX5_act 28 = .ok (.aload_n 0, 1) := by decide +kernel
theorem dX5_act_29 : decode cX5_act 29 = .ok (.getfield 35, 3) := by decide +kernel
theorem dX5_act_32 : decode cX5_act 32 = .ok (.ifCond .le 7, 3) := by decide +kernel
theorem dX5_act_35 : decode cX5_act 35 = .ok (.iconst 0, 1) := by decide +kernel
theorem dX5_act_36 : decode cX5_act 36 = .ok (.goto 9, 3) := by decide +kernel
theorem dX5_act_39 : decode cX5_act 39 = .ok (.aload_n 0, 1) := by decide +kernel
theorem dX5_act_40 : decode cX5_act 40 = .ok (.iload_n 1, 1) := by decide +kernel
theorem dX5_act_41 : decode cX5_act 41 = .ok (.iload_n 2, 1) := by decide +kernel
theorem dX5_act_42 : decode cX5_act 42 = .ok (.invokevirtual 130, 3) := by decide +kernel
theorem dX5_act_45 : decode cX5_act 45 = .ok (.ireturn, 1) := by decide +kernel
set_option maxRecDepth 20000 in
theorem ggX5_reason_X5_asks : GoodIn wsX5_reason wsX5_asks := goodIn_r _ [5, 6, 7, 8, 4, 9, 10, 11, 12, 13, 14, 15, 16, 17, 18, 19, 90, 91, 92, 93, 94, 95, 96, 97, 98, 99, 100, 101, 102, 103, 104, 105, 106, 107, 108] (by decide +kernel) (by decide +kernel)
set_option maxRecDepth 20000 in
theorem gX5_reason_X5_asks : GoodIn wsX5_reason (wsV RX5 127 RX5 yX5_asks wsX5_asks) := goodIn_app (goodIn_of _ (by decide +kernel)) ggX5_reason_X5_asks
set_option maxRecDepth 20000 in
theorem ggX5_reason_X5_why : GoodIn wsX5_reason wsX5_why := goodIn_r _ [23, 24, 25, 26, 4, 27, 28, 29, 30, 31, 32, 33, 34, 35, 36, 37, 38, 39, 40, 41, 42, 43, 44, 45, 46, 47, 48, 49, 50, 51, 52, 53, 54, 55, 56, 57, 58, 59, 60, 61, 62, 63, 64, 65, 66, 67, 68, 69, 14, 70, 71, 72, 73, 74, 75, 76, 77, 78, 79, 80, 81, 82, 83, 84, 85, 86, 87, 88, 89, 19, 90, 91, 92, 93, 94, 95, 96, 97, 98, 99, 100, 101, 102, 103, 104, 105, 106, 107, 108] (by decide +kernel) (by decide +kernel)
set_option maxRecDepth 20000 in
theorem gX5_reason_X5_why : GoodIn wsX5_reason (wsV RX5 121 RX5 yX5_why wsX5_why) := goodIn_app (goodIn_of _ (by decide +kernel)) ggX5_reason_X5_why
theorem dX5_reason_0 : decode cX5_reason 0 = .ok (.aload_n 0, 1) := by decide +kernel
theorem dX5_reason_1 : decode cX5_reason 1 = .ok (.iload_n 1, 1) := by decide +kernel
theorem dX5_reason_2 : decode cX5_reason 2 = .ok (.iload_n 2, 1) := by decide +kernel
theorem dX5_reason_3 : decode cX5_reason 3 = .ok (.invokevirtual 127, 3) := by decide +kernel
theorem dX5_reason_6 : decode cX5_reason 6 = .ok (.ifCond .eq 12, 3) := by decide +kernel
theorem dX5_reason_9 : decode cX5_reason 9 = .ok (.aload_n 0, 1) := by decide +kernel
theorem dX5_reason_10 : decode cX5_reason 10 = .ok (.iload_n 1, 1) := by decide +kernel
theorem dX5_reason_11 : decode cX5_reason 11 = .ok (.iload_n 2, 1) := by decide +kernel
theorem dX5_reason_12 : decode cX5_reason 12 = .ok (.invokevirtual 121, 3) := by decide +kernel
theorem dX5_reason_15 : decode cX5_reason 15 = .ok (.goto 4, 3) := by decide +kernel
theorem dX5_reason_18 : decode cX5_reason 18 = .ok (.iconst 0, 1) := by decide +kernel
theorem dX5_reason_19 : decode cX5_reason 19 = .ok (.ireturn, 1) := by decide +kernel
theorem dX5_opposite_0 : decode cX5_opposite 0 = .ok (.iload_n 0, 1) := by decide +kernel
theorem dX5_opposite_1 : decode cX5_opposite 1 = .ok (.bipush 100, 2) := by decide +kernel
theorem dX5_opposite_3 : decode cX5_opposite 3 = .ok (.idiv, 1) := by decide +kernel
theorem dX5_opposite_4 : decode cX5_opposite 4 = .ok (.iconst 2, 1) := by decide +kernel
theorem dX5_opposite_5 : decode cX5_opposite 5 = .ok (.irem, 1) := by decide +kernel
theorem dX5_opposite_6 : decode cX5_opposite 6 = .ok (.ifCond .ne 10, 3) := by decide +kernel
theorem dX5_opposite_9 : decode cX5_opposite 9 = .ok (.iload_n 0, 1) := by decide +kernel
theorem dX5_opposite_10 : decode cX5_opposite 10 = .ok (.bipush 100, 2) := by decide +kernel
theorem dX5_opposite_12 : decode cX5_opposite 12 = .ok (.iadd, 1) := by decide +kernel
theorem dX5_opposite_13 : decode cX5_opposite 13 = .ok (.goto 7, 3) := by decide +kernel
theorem dX5_opposite_16 : decode cX5_opposite 16 = .ok (.iload_n 0, 1) := by decide +kernel
theorem dX5_opposite_17 : decode cX5_opposite 17 = .ok (.bipush 100, 2) := by decide +kernel
theorem dX5_opposite_19 : decode cX5_opposite 19 = .ok (.isub, 1) := by decide +kernel
theorem dX5_opposite_20 : decode cX5_opposite 20 = .ok (.ireturn, 1) := by decide +kernel
set_option maxRecDepth 20000 in
theorem ggX5_takeBack_X5_opposite : GoodIn wsX5_takeBack wsX5_opposite := goodIn_r _ [7] (by decide +kernel) (by decide +kernel)
set_option maxRecDepth 20000 in
theorem gX5_takeBack_X5_opposite : GoodIn wsX5_takeBack (va_wsS RX5 133 yX5_opposite wsX5_opposite) := goodIn_app (goodIn_of _ (by decide +kernel)) ggX5_takeBack_X5_opposite
set_option maxRecDepth 20000 in
theorem ggX5_takeBack_X5_why : GoodIn wsX5_takeBack wsX5_why := goodIn_r _ [11, 12, 13, 14, 6, 15, 16, 17, 18, 19, 20, 21, 22, 23, 24, 25, 26, 27, 28, 29, 30, 31, 32, 33, 34, 35, 36, 37, 38, 39, 40, 41, 42, 43, 44, 45, 46, 47, 48, 49, 50, 51, 52, 53, 54, 55, 56, 57, 58, 59, 60, 61, 62, 63, 64, 65, 66, 67, 68, 69, 70, 71, 72, 73, 74, 75, 76, 77, 78, 79, 80, 81, 82, 83, 84, 85, 86, 87, 88, 89, 90, 91, 92, 93, 94, 95, 96, 97, 98] (by decide +kernel) (by decide +kernel)
set_option maxRecDepth 20000 in
theorem gX5_takeBack_X5_why : GoodIn wsX5_takeBack (wsV RX5 121 RX5 yX5_why wsX5_why) := goodIn_app (goodIn_of _ (by decide +kernel)) ggX5_takeBack_X5_why
set_option maxRecDepth 20000 in
theorem ggX5_takeBack_X5_does : GoodIn wsX5_takeBack wsX5_does := goodIn_r _ [74, 16, 17, 19, 80, 81, 82, 83, 84, 85, 86, 87, 88, 89, 90, 91, 92, 93, 94, 95, 96, 97, 98] (by decide +kernel) (by decide +kernel)
set_option maxRecDepth 20000 in
theorem gX5_takeBack_X5_does : GoodIn wsX5_takeBack (wsV RX5 98 RX5 yX5_does wsX5_does) := goodIn_app (goodIn_of _ (by decide +kernel)) ggX5_takeBack_X5_does
theorem dX5_takeBack_0 : decode cX5_takeBack 0 = .ok (.aload_n 0, 1) := by decide +kernel
theorem dX5_takeBack_1 : decode cX5_takeBack 1 = .ok (.aload_n 0, 1) := by decide +kernel
theorem dX5_takeBack_2 : decode cX5_takeBack 2 = .ok (.getfield 124, 3) := by decide +kernel
theorem dX5_takeBack_5 : decode cX5_takeBack 5 = .ok (.ifCond .ne 7, 3) := by decide +kernel
theorem dX5_takeBack_8 : decode cX5_takeBack 8 = .ok (.iconst 1, 1) := by decide +kernel
theorem dX5_takeBack_9 : decode cX5_takeBack 9 = .ok (.goto 4, 3) := by decide +kernel
theorem dX5_takeBack_12 : decode cX5_takeBack 12 = .ok (.iconst 0, 1) := by decide +kernel
theorem dX5_takeBack_13 : decode cX5_takeBack 13 = .ok (.putfield 35, 3) := by decide +kernel
theorem dX5_takeBack_16 : decode cX5_takeBack 16 = .ok (.aload_n 0, 1) := by decide +kernel
theorem dX5_takeBack_17 : decode cX5_takeBack 17 = .ok (.getfield 35, 3) := by decide +kernel
theorem dX5_takeBack_20 : decode cX5_takeBack 20 = .ok (.ifCond .le 5, 3) := by decide +kernel
theorem dX5_takeBack_23 : decode cX5_takeBack 23 = .ok (.iconst 0, 1) := by decide +kernel
theorem dX5_takeBack_24 : decode cX5_takeBack 24 = .ok (.ireturn, 1) := by decide +kernel
theorem dX5_takeBack_25 : decode cX5_takeBack 25 = .ok (.aload_n 0, 1) := by decide +kernel
theorem dX5_takeBack_26 : decode cX5_takeBack 26 = .ok (.getfield 20, 3) := by decide +kernel
theorem dX5_takeBack_29 : decode cX5_takeBack 29 = .ok (.aload_n 0, 1) := by decide +kernel
theorem dX5_takeBack_30 : decode cX5_takeBack 30 = .ok (.getfield 124, 3) := by decide +kernel
theorem dX5_takeBack_33 : decode cX5_takeBack 33 = .ok (.iconst 1, 1) := by decide +kernel
theorem dX5_takeBack_34 : decode cX5_takeBack 34 = .ok (.isub, 1) := by decide +kernel
theorem dX5_takeBack_35 : decode cX5_takeBack 35 = .ok (.iaload, 1) := by decide +kernel
theorem dX5_takeBack_36 : decode cX5_takeBack 36 = .ok (.invokestatic 133, 3) := by decide +kernel
theorem dX5_takeBack_39 : decode cX5_takeBack 39 = .ok (.istore_n 1, 1) := by decide +kernel
theorem dX5_takeBack_40 : decode cX5_takeBack 40 = .ok (.aload_n 0, 1) := by decide +kernel
theorem dX5_takeBack_41 : decode cX5_takeBack 41 = .ok (.iload_n 1, 1) := by decide +kernel
theorem dX5_takeBack_42 : decode cX5_takeBack 42 = .ok (.bipush 100, 2) := by decide +kernel
theorem dX5_takeBack_44 : decode cX5_takeBack 44 = .ok (.idiv, 1) := by decide +kernel
theorem dX5_takeBack_45 : decode cX5_takeBack 45 = .ok (.iload_n 1, 1) := by decide +kernel
theorem dX5_takeBack_46 : decode cX5_takeBack 46 = .ok (.bipush 100, 2) := by decide +kernel
theorem dX5_takeBack_48 : decode cX5_takeBack 48 = .ok (.irem, 1) := by decide +kernel
theorem dX5_takeBack_49 : decode cX5_takeBack 49 = .ok (.invokevirtual 121, 3) := by decide +kernel
theorem dX5_takeBack_52 : decode cX5_takeBack 52 = .ok (.istore_n 2, 1) := by decide +kernel
theorem dX5_takeBack_53 : decode cX5_takeBack 53 = .ok (.iload_n 2, 1) := by decide +kernel
theorem dX5_takeBack_54 : decode cX5_takeBack 54 = .ok (.ifCond .ne 25, 3) := by decide +kernel
theorem dX5_takeBack_57 : decode cX5_takeBack 57 = .ok (.aload_n 0, 1) := by decide +kernel
theorem dX5_takeBack_58 : decode cX5_takeBack 58 = .ok (.iload_n 1, 1) := by decide +kernel
theorem dX5_takeBack_59 : decode cX5_takeBack 59 = .ok (.bipush 100, 2) := by decide +kernel
theorem dX5_takeBack_61 : decode cX5_takeBack 61 = .ok (.idiv, 1) := by decide +kernel
theorem dX5_takeBack_62 : decode cX5_takeBack 62 = .ok (.iload_n 1, 1) := by decide +kernel
theorem dX5_takeBack_63 : decode cX5_takeBack 63 = .ok (.bipush 100, 2) := by decide +kernel
theorem dX5_takeBack_65 : decode cX5_takeBack 65 = .ok (.irem, 1) := by decide +kernel
theorem dX5_takeBack_66 : decode cX5_takeBack 66 = .ok (.invokevirtual 98, 3) := by decide +kernel
theorem dX5_takeBack_69 : decode cX5_takeBack 69 = .ok (.aload_n 0, 1) := by decide +kernel
theorem dX5_takeBack_70 : decode cX5_takeBack 70 = .ok (.dup, 1) := by decide +kernel
theorem dX5_takeBack_71 : decode cX5_takeBack 71 = .ok (.getfield 124, 3) := by decide +kernel
theorem dX5_takeBack_74 : decode cX5_takeBack 74 = .ok (.iconst 1, 1) := by decide +kernel
theorem dX5_takeBack_75 : decode cX5_takeBack 75 = .ok (.isub, 1) := by decide +kernel
theorem dX5_takeBack_76 : decode cX5_takeBack 76 = .ok (.putfield 124, 3) := by decide +kernel
theorem dX5_takeBack_79 : decode cX5_takeBack 79 = .ok (.iload_n 2, 1) := by decide +kernel
theorem dX5_takeBack_80 : decode cX5_takeBack 80 = .ok (.ireturn, 1) := by decide +kernel
theorem dX5_log_0 : decode cX5_log 0 = .ok (.aload_n 0, 1) := by decide +kernel
theorem dX5_log_1 : decode cX5_log 1 = .ok (.iconst 0, 1) := by decide +kernel
theorem dX5_log_2 : decode cX5_log 2 = .ok (.putfield 35, 3) := by decide +kernel
theorem dX5_log_5 : decode cX5_log 5 = .ok (.aload_n 0, 1) := by decide +kernel
theorem dX5_log_6 : decode cX5_log 6 = .ok (.getfield 124, 3) := by decide +kernel
theorem dX5_log_9 : decode cX5_log 9 = .ok (.ireturn, 1) := by decide +kernel
set_option maxRecDepth 20000 in
theorem ggX5_logged_X5_in : GoodIn wsX5_logged wsX5_in := goodIn_r _ [7] (by decide +kernel) (by decide +kernel)
set_option maxRecDepth 20000 in
theorem gX5_logged_X5_in : GoodIn wsX5_logged (va_wsS RX5 42 yX5_in wsX5_in) := goodIn_app (goodIn_of _ (by decide +kernel)) ggX5_logged_X5_in
theorem dX5_logged_0 : decode cX5_logged 0 = .ok (.aload_n 0, 1) := by decide +kernel
theorem dX5_logged_1 : decode cX5_logged 1 = .ok (.iload_n 1, 1) := by decide +kernel
theorem dX5_logged_2 : decode cX5_logged 2 = .ok (.iconst 0, 1) := by decide +kernel
theorem dX5_logged_3 : decode cX5_logged 3 = .ok (.aload_n 0, 1) := by decide +kernel
theorem dX5_logged_4 : decode cX5_logged 4 = .ok (.getfield 124, 3) := by decide +kernel
theorem dX5_logged_7 : decode cX5_logged 7 = .ok (.iconst 1, 1) := by decide +kernel
theorem dX5_logged_8 : decode cX5_logged 8 = .ok (.isub, 1) := by decide +kernel
theorem dX5_logged_9 : decode cX5_logged 9 = .ok (.invokestatic 42, 3) := by decide +kernel
theorem dX5_logged_12 : decode cX5_logged 12 = .ok (.ifCond .eq 7, 3) := by decide +kernel
theorem dX5_logged_15 : decode cX5_logged 15 = .ok (.iconst 0, 1) := by decide +kernel
theorem dX5_logged_16 : decode cX5_logged 16 = .ok (.goto 4, 3) := by decide +kernel
theorem dX5_logged_19 : decode cX5_logged 19 = .ok (.iconst 1, 1) := by decide +kernel
theorem dX5_logged_20 : decode cX5_logged 20 = .ok (.putfield 35, 3) := by decide +kernel
theorem dX5_logged_23 : decode cX5_logged 23 = .ok (.aload_n 0, 1) := by decide +kernel
theorem dX5_logged_24 : decode cX5_logged 24 = .ok (.getfield 35, 3) := by decide +kernel
theorem dX5_logged_27 : decode cX5_logged 27 = .ok (.ifCond .le 7, 3) := by decide +kernel
theorem dX5_logged_30 : decode cX5_logged 30 = .ok (.iconst 0, 1) := by decide +kernel
theorem dX5_logged_31 : decode cX5_logged 31 = .ok (.goto 16, 3) := by decide +kernel
theorem dX5_logged_34 : decode cX5_logged 34 = .ok (.aload_n 0, 1) := by decide +kernel
theorem dX5_logged_35 : decode cX5_logged 35 = .ok (.getfield 20, 3) := by decide +kernel
theorem dX5_logged_38 : decode cX5_logged 38 = .ok (.aload_n 0, 1) := by decide +kernel
theorem dX5_logged_39 : decode cX5_logged 39 = .ok (.getfield 124, 3) := by decide +kernel
theorem dX5_logged_42 : decode cX5_logged 42 = .ok (.iconst 1, 1) := by decide +kernel
theorem dX5_logged_43 : decode cX5_logged 43 = .ok (.isub, 1) := by decide +kernel
theorem dX5_logged_44 : decode cX5_logged 44 = .ok (.iload_n 1, 1) := by decide +kernel
theorem dX5_logged_45 : decode cX5_logged 45 = .ok (.isub, 1) := by decide +kernel
theorem dX5_logged_46 : decode cX5_logged 46 = .ok (.iaload, 1) := by decide +kernel
theorem dX5_logged_47 : decode cX5_logged 47 = .ok (.ireturn, 1) := by decide +kernel
set_option maxRecDepth 20000 in
theorem ggX5_times_X5_asks : GoodIn wsX5_times wsX5_asks := goodIn_r _ [7, 8, 9, 10, 6, 11, 12, 13, 14, 15, 16, 17, 18, 19, 20, 21, 22, 23, 24, 25, 26, 27, 28, 29, 30, 31, 32, 33, 34, 35, 36, 37, 38, 39, 40] (by decide +kernel) (by decide +kernel)
set_option maxRecDepth 20000 in
theorem gX5_times_X5_asks : GoodIn wsX5_times (wsV RX5 127 RX5 yX5_asks wsX5_asks) := goodIn_app (goodIn_of _ (by decide +kernel)) ggX5_times_X5_asks
theorem dX5_times_0 : decode cX5_times 0 = .ok (.iconst 0, 1) := by decide +kernel
theorem dX5_times_1 : decode cX5_times 1 = .ok (.istore_n 3, 1) := by decide +kernel
theorem dX5_times_2 : decode cX5_times 2 = .ok (.aload_n 0, 1) := by decide +kernel
theorem dX5_times_3 : decode cX5_times 3 = .ok (.iload_n 1, 1) := by decide +kernel
theorem dX5_times_4 : decode cX5_times 4 = .ok (.iload_n 2, 1) := by decide +kernel
theorem dX5_times_5 : decode cX5_times 5 = .ok (.invokevirtual 127, 3) := by decide +kernel
theorem dX5_times_8 : decode cX5_times 8 = .ok (.ifCond .eq 45, 3) := by decide +kernel
theorem dX5_times_11 : decode cX5_times 11 = .ok (.iconst 0, 1) := by decide +kernel
theorem dX5_times_12 : decode cX5_times 12 = .ok (.istore 4, 2) := by decide +kernel
theorem dX5_times_14 : decode cX5_times 14 = .ok (.iload 4, 2) := by decide +kernel
theorem dX5_times_16 : decode cX5_times 16 = .ok (.aload_n 0, 1) := by decide +kernel
theorem dX5_times_17 : decode cX5_times 17 = .ok (.getfield 124, 3) := by decide +kernel
theorem dX5_times_20 : decode cX5_times 20 = .ok (.if_icmp .ge 33, 3) := by decide +kernel
theorem dX5_times_23 : decode cX5_times 23 = .ok (.iload_n 3, 1) := by decide +kernel
theorem dX5_times_24 : decode cX5_times 24 = .ok (.aload_n 0, 1) := by decide +kernel
theorem dX5_times_25 : decode cX5_times 25 = .ok (.getfield 20, 3) := by decide +kernel
theorem dX5_times_28 : decode cX5_times 28 = .ok (.iload 4, 2) := by decide +kernel
theorem dX5_times_30 : decode cX5_times 30 = .ok (.iaload, 1) := by decide +kernel
theorem dX5_times_31 : decode cX5_times 31 = .ok (.bipush 100, 2) := by decide +kernel
theorem dX5_times_33 : decode cX5_times 33 = .ok (.iload_n 1, 1) := by decide +kernel
theorem dX5_times_34 : decode cX5_times 34 = .ok (.imul, 1) := by decide +kernel
theorem dX5_times_35 : decode cX5_times 35 = .ok (.iload_n 2, 1) := by decide +kernel
theorem dX5_times_36 : decode cX5_times 36 = .ok (.iadd, 1) := by decide +kernel
theorem dX5_times_37 : decode cX5_times 37 = .ok (.if_icmp .ne 7, 3) := by decide +kernel
theorem dX5_times_40 : decode cX5_times 40 = .ok (.iconst 1, 1) := by decide +kernel
theorem dX5_times_41 : decode cX5_times 41 = .ok (.goto 4, 3) := by decide +kernel
theorem dX5_times_44 : decode cX5_times 44 = .ok (.iconst 0, 1) := by decide +kernel
theorem dX5_times_45 : decode cX5_times 45 = .ok (.iadd, 1) := by decide +kernel
theorem dX5_times_46 : decode cX5_times 46 = .ok (.istore_n 3, 1) := by decide +kernel
theorem dX5_times_47 : decode cX5_times 47 = .ok (.iinc 4 1, 3) := by decide +kernel
theorem dX5_times_50 : decode cX5_times 50 = .ok (.goto (-36), 3) := by decide +kernel
theorem dX5_times_53 : decode cX5_times 53 = .ok (.iload_n 3, 1) := by decide +kernel
theorem dX5_times_54 : decode cX5_times 54 = .ok (.ireturn, 1) := by decide +kernel
set_option maxRecDepth 20000 in
theorem ggX5_write_X5_asks : GoodIn wsX5_write wsX5_asks := goodIn_r _ [8, 2, 9, 10, 7, 11, 12, 13, 14, 15, 16, 17, 18, 19, 20, 21, 22, 23, 24, 25, 26, 27, 28, 29, 30, 31, 32, 33, 34, 35, 36, 37, 38, 39, 40] (by decide +kernel) (by decide +kernel)
set_option maxRecDepth 20000 in
theorem gX5_write_X5_asks : GoodIn wsX5_write (wsV RX5 127 RX5 yX5_asks wsX5_asks) := goodIn_app (goodIn_of _ (by decide +kernel)) ggX5_write_X5_asks
theorem dX5_write_0 : decode cX5_write 0 = .ok (.aload_n 0, 1) := by decide +kernel
theorem dX5_write_1 : decode cX5_write 1 = .ok (.iload_n 1, 1) := by decide +kernel
theorem dX5_write_2 : decode cX5_write 2 = .ok (.iload_n 2, 1) := by decide +kernel
theorem dX5_write_3 : decode cX5_write 3 = .ok (.invokevirtual 127, 3) := by decide +kernel
theorem dX5_write_6 : decode cX5_write 6 = .ok (.ifCond .eq 21, 3) := by decide +kernel
theorem dX5_write_9 : decode cX5_write 9 = .ok (.aload_n 0, 1) := by decide +kernel
theorem dX5_write_10 : decode cX5_write 10 = .ok (.aload_n 0, 1) := by decide +kernel
theorem dX5_write_11 : decode cX5_write 11 = .ok (.getfield 137, 3) := by decide +kernel
theorem dX5_write_14 : decode cX5_write 14 = .ok (.bipush 30, 2) := by decide +kernel
theorem dX5_write_16 : decode cX5_write 16 = .ok (.if_icmp .ne 7, 3) := by decide +kernel
theorem dX5_write_19 : decode cX5_write 19 = .ok (.iconst 3, 1) := by decide +kernel
theorem dX5_write_20 : decode cX5_write 20 = .ok (.goto 4, 3) := by decide +kernel
theorem dX5_write_23 : decode cX5_write 23 = .ok (.iconst 0, 1) := by decide +kernel
theorem dX5_write_24 : decode cX5_write 24 = .ok (.putfield 35, 3) := by decide +kernel
theorem dX5_write_27 : decode cX5_write 27 = .ok (.aload_n 0, 1) := by decide +kernel
theorem dX5_write_28 : decode cX5_write 28 = .ok (.getfield 35, 3) := by decide +kernel
theorem dX5_write_31 : decode cX5_write 31 = .ok (.ifCond .le 5, 3) := by decide +kernel
theorem dX5_write_34 : decode cX5_write 34 = .ok (.iconst 0, 1) := by decide +kernel
theorem dX5_write_35 : decode cX5_write 35 = .ok (.ireturn, 1) := by decide +kernel
theorem dX5_write_36 : decode cX5_write 36 = .ok (.aload_n 0, 1) := by decide +kernel
theorem dX5_write_37 : decode cX5_write 37 = .ok (.getfield 23, 3) := by decide +kernel
theorem dX5_write_40 : decode cX5_write 40 = .ok (.aload_n 0, 1) := by decide +kernel
theorem dX5_write_41 : decode cX5_write 41 = .ok (.getfield 137, 3) := by decide +kernel
theorem dX5_write_44 : decode cX5_write 44 = .ok (.bipush 100, 2) := by decide +kernel
theorem dX5_write_46 : decode cX5_write 46 = .ok (.iload_n 1, 1) := by decide +kernel
theorem dX5_write_47 : decode cX5_write 47 = .ok (.imul, 1) := by decide +kernel
theorem dX5_write_48 : decode cX5_write 48 = .ok (.iload_n 2, 1) := by decide +kernel
theorem dX5_write_49 : decode cX5_write 49 = .ok (.iadd, 1) := by decide +kernel
theorem dX5_write_50 : decode cX5_write 50 = .ok (.iastore, 1) := by decide +kernel
theorem dX5_write_51 : decode cX5_write 51 = .ok (.aload_n 0, 1) := by decide +kernel
theorem dX5_write_52 : decode cX5_write 52 = .ok (.dup, 1) := by decide +kernel
theorem dX5_write_53 : decode cX5_write 53 = .ok (.getfield 137, 3) := by decide +kernel
theorem dX5_write_56 : decode cX5_write 56 = .ok (.iconst 1, 1) := by decide +kernel
theorem dX5_write_57 : decode cX5_write 57 = .ok (.iadd, 1) := by decide +kernel
theorem dX5_write_58 : decode cX5_write 58 = .ok (.putfield 137, 3) := by decide +kernel
theorem dX5_write_61 : decode cX5_write 61 = .ok (.aload_n 0, 1) := by decide +kernel
theorem dX5_write_62 : decode cX5_write 62 = .ok (.getfield 137, 3) := by decide +kernel
theorem dX5_write_65 : decode cX5_write 65 = .ok (.ireturn, 1) := by decide +kernel
theorem dX5_erase_0 : decode cX5_erase 0 = .ok (.aload_n 0, 1) := by decide +kernel
theorem dX5_erase_1 : decode cX5_erase 1 = .ok (.iconst 0, 1) := by decide +kernel
theorem dX5_erase_2 : decode cX5_erase 2 = .ok (.putfield 35, 3) := by decide +kernel
theorem dX5_erase_5 : decode cX5_erase 5 = .ok (.aload_n 0, 1) := by decide +kernel
theorem dX5_erase_6 : decode cX5_erase 6 = .ok (.getfield 137, 3) := by decide +kernel
theorem dX5_erase_9 : decode cX5_erase 9 = .ok (.istore_n 1, 1) := by decide +kernel
theorem dX5_erase_10 : decode cX5_erase 10 = .ok (.aload_n 0, 1) := by decide +kernel
theorem dX5_erase_11 : decode cX5_erase 11 = .ok (.iconst 0, 1) := by decide +kernel
theorem dX5_erase_12 : decode cX5_erase 12 = .ok (.putfield 137, 3) := by decide +kernel
theorem dX5_erase_15 : decode cX5_erase 15 = .ok (.iload_n 1, 1) := by decide +kernel
theorem dX5_erase_16 : decode cX5_erase 16 = .ok (.ireturn, 1) := by decide +kernel
set_option maxRecDepth 20000 in
theorem ggX5_check_X5_why : GoodIn wsX5_check wsX5_why := goodIn_r _ [11, 12, 13, 14, 10, 15, 2, 3, 16, 4, 17, 18, 19, 20, 21, 22, 23, 24, 25, 26, 27, 28, 29, 30, 31, 32, 33, 34, 35, 36, 37, 38, 39, 40, 41, 42, 43, 44, 45, 46, 47, 48, 49, 50, 51, 52, 53, 54, 55, 56, 57, 58, 59, 60, 61, 62, 63, 64, 65, 66, 67, 68, 69, 70, 71, 72, 73, 74, 75, 76, 77, 78, 79, 80, 81, 82, 83, 84, 85, 86, 87, 88, 89, 90, 91, 92, 93, 94, 95] (by decide +kernel) (by decide +kernel)
set_option maxRecDepth 20000 in
theorem gX5_check_X5_why : GoodIn wsX5_check (wsV RX5 121 RX5 yX5_why wsX5_why) := goodIn_app (goodIn_of _ (by decide +kernel)) ggX5_check_X5_why
set_option maxRecDepth 20000 in
theorem ggX5_check_X5_does : GoodIn wsX5_check wsX5_does := goodIn_r _ [71, 2, 3, 4, 77, 78, 79, 80, 81, 82, 83, 84, 85, 86, 87, 88, 89, 90, 91, 92, 93, 94, 95] (by decide +kernel) (by decide +kernel)
set_option maxRecDepth 20000 in
theorem gX5_check_X5_does : GoodIn wsX5_check (wsV RX5 98 RX5 yX5_does wsX5_does) := goodIn_app (goodIn_of _ (by decide +kernel)) ggX5_check_X5_does
theorem dX5_check_0 : decode cX5_check 0 = .ok (.aload_n 0, 1) := by decide +kernel
theorem dX5_check_1 : decode cX5_check 1 = .ok (.iconst 0, 1) := by decide +kernel
theorem dX5_check_2 : decode cX5_check 2 = .ok (.putfield 35, 3) := by decide +kernel
theorem dX5_check_5 : decode cX5_check 5 = .ok (.aload_n 0, 1) := by decide +kernel
theorem dX5_check_6 : decode cX5_check 6 = .ok (.getfield 76, 3) := by decide +kernel
theorem dX5_check_9 : decode cX5_check 9 = .ok (.istore_n 1, 1) := by decide +kernel
theorem dX5_check_10 : decode cX5_check 10 = .ok (.aload_n 0, 1) := by decide +kernel
theorem dX5_check_11 : decode cX5_check 11 = .ok (.getfield 79, 3) := by decide +kernel
theorem dX5_check_14 : decode cX5_check 14 = .ok (.istore_n 2, 1) := by decide +kernel
theorem dX5_check_15 : decode cX5_check 15 = .ok (.aload_n 0, 1) := by decide +kernel
theorem dX5_check_16 : decode cX5_check 16 = .ok (.getfield 67, 3) := by decide +kernel
theorem dX5_check_19 : decode cX5_check 19 = .ok (.istore_n 3, 1) := by decide +kernel
theorem dX5_check_20 : decode cX5_check 20 = .ok (.iconst 0, 1) := by decide +kernel
theorem dX5_check_21 : decode cX5_check 21 = .ok (.istore 4, 2) := by decide +kernel
theorem dX5_check_23 : decode cX5_check 23 = .ok (.iload 4, 2) := by decide +kernel
theorem dX5_check_25 : decode cX5_check 25 = .ok (.aload_n 0, 1) := by decide +kernel
theorem dX5_check_26 : decode cX5_check 26 = .ok (.getfield 137, 3) := by decide +kernel
theorem dX5_check_29 : decode cX5_check 29 = .ok (.if_icmp .ge 60, 3) := by decide +kernel
theorem dX5_check_32 : decode cX5_check 32 = .ok (.aload_n 0, 1) := by decide +kernel
theorem dX5_check_33 : decode cX5_check 33 = .ok (.aload_n 0, 1) := by decide +kernel
theorem dX5_check_34 : decode cX5_check 34 = .ok (.getfield 23, 3) := by decide +kernel
theorem dX5_check_37 : decode cX5_check 37 = .ok (.iload 4, 2) := by decide +kernel
theorem dX5_check_39 : decode cX5_check 39 = .ok (.iaload, 1) := by decide +kernel
theorem dX5_check_40 : decode cX5_check 40 = .ok (.bipush 100, 2) := by decide +kernel
theorem dX5_check_42 : decode cX5_check 42 = .ok (.idiv, 1) := by decide +kernel
theorem dX5_check_43 : decode cX5_check 43 = .ok (.aload_n 0, 1) := by decide +kernel
theorem dX5_check_44 : decode cX5_check 44 = .ok (.getfield 23, 3) := by decide +kernel
theorem dX5_check_47 : decode cX5_check 47 = .ok (.iload 4, 2) := by decide +kernel
theorem dX5_check_49 : decode cX5_check 49 = .ok (.iaload, 1) := by decide +kernel
theorem dX5_check_50 : decode cX5_check 50 = .ok (.bipush 100, 2) := by decide +kernel
theorem dX5_check_52 : decode cX5_check 52 = .ok (.irem, 1) := by decide +kernel
theorem dX5_check_53 : decode cX5_check 53 = .ok (.invokevirtual 121, 3) := by decide +kernel
theorem dX5_check_56 : decode cX5_check 56 = .ok (.ifCond .ne 33, 3) := by decide +kernel
theorem dX5_check_59 : decode cX5_check 59 = .ok (.aload_n 0, 1) := by decide +kernel
theorem dX5_check_60 : decode cX5_check 60 = .ok (.aload_n 0, 1) := by decide +kernel
theorem dX5_check_61 : decode cX5_check 61 = .ok (.getfield 23, 3) := by decide +kernel
theorem dX5_check_64 : decode cX5_check 64 = .ok (.iload 4, 2) := by decide +kernel
theorem dX5_check_66 : decode cX5_check 66 = .ok (.iaload, 1) := by decide +kernel
theorem dX5_check_67 : decode cX5_check 67 = .ok (.bipush 100, 2) := by decide +kernel
theorem dX5_check_69 : decode cX5_check 69 = .ok (.idiv, 1) := by decide +kernel
theorem dX5_check_70 : decode cX5_check 70 = .ok (.aload_n 0, 1) := by decide +kernel
theorem dX5_check_71 : decode cX5_check 71 = .ok (.getfield 23, 3) := by decide +kernel
theorem dX5_check_74 : decode cX5_check 74 = .ok (.iload 4, 2) := by decide +kernel
theorem dX5_check_76 : decode cX5_check 76 = .ok (.iaload, 1) := by decide +kernel
theorem dX5_check_77 : decode cX5_check 77 = .ok (.bipush 100, 2) := by decide +kernel
theorem dX5_check_79 : decode cX5_check 79 = .ok (.irem, 1) := by decide +kernel
theorem dX5_check_80 : decode cX5_check 80 = .ok (.invokevirtual 98, 3) := by decide +kernel
theorem dX5_check_83 : decode cX5_check 83 = .ok (.iinc 4 1, 3) := by decide +kernel
theorem dX5_check_86 : decode cX5_check 86 = .ok (.goto (-63), 3) := by decide +kernel
theorem dX5_check_89 : decode cX5_check 89 = .ok (.aload_n 0, 1) := by decide +kernel
theorem dX5_check_90 : decode cX5_check 90 = .ok (.iload_n 1, 1) := by decide +kernel
theorem dX5_check_91 : decode cX5_check 91 = .ok (.putfield 76, 3) := by decide +kernel
theorem dX5_check_94 : decode cX5_check 94 = .ok (.aload_n 0, 1) := by decide +kernel
theorem dX5_check_95 : decode cX5_check 95 = .ok (.iload_n 2, 1) := by decide +kernel
theorem dX5_check_96 : decode cX5_check 96 = .ok (.putfield 79, 3) := by decide +kernel
theorem dX5_check_99 : decode cX5_check 99 = .ok (.aload_n 0, 1) := by decide +kernel
theorem dX5_check_100 : decode cX5_check 100 = .ok (.iload_n 3, 1) := by decide +kernel
theorem dX5_check_101 : decode cX5_check 101 = .ok (.putfield 67, 3) := by decide +kernel
theorem dX5_check_104 : decode cX5_check 104 = .ok (.iload 4, 2) := by decide +kernel
theorem dX5_check_106 : decode cX5_check 106 = .ok (.ireturn, 1) := by decide +kernel
set_option maxRecDepth 20000 in
theorem ggX5_carryOut_X5_in : GoodIn wsX5_carryOut wsX5_in := goodIn_r _ [8] (by decide +kernel) (by decide +kernel)
set_option maxRecDepth 20000 in
theorem gX5_carryOut_X5_in : GoodIn wsX5_carryOut (va_wsS RX5 42 yX5_in wsX5_in) := goodIn_app (goodIn_of _ (by decide +kernel)) ggX5_carryOut_X5_in
set_option maxRecDepth 20000 in
theorem ggX5_carryOut_X5_acts : GoodIn wsX5_carryOut wsX5_acts := goodIn_r _ [12, 13, 1, 14, 15, 16, 7, 17, 18, 19, 20, 21, 22, 23, 24, 25, 26, 27, 28, 29, 30, 31, 32, 33, 34, 35, 36, 37, 38, 39, 40, 41, 42, 43, 44, 45, 46, 47, 48, 49, 50, 51, 52, 53, 54, 55, 56, 57, 58, 59, 60, 61, 62, 63, 64, 65, 66, 67, 68, 69, 70, 71, 72, 73, 74, 75, 76, 77, 78, 79, 80, 81, 82, 83, 84, 85, 86, 87, 88, 89, 90, 91, 92, 93, 94, 95, 96, 97, 98, 99, 100, 101, 102, 103, 104] (by decide +kernel) (by decide +kernel)
set_option maxRecDepth 20000 in
theorem gX5_carryOut_X5_acts : GoodIn wsX5_carryOut (wsV RX5 130 RX5 yX5_acts wsX5_acts) := goodIn_app (goodIn_of _ (by decide +kernel)) ggX5_carryOut_X5_acts
theorem dX5_carryOut_0 : decode cX5_carryOut 0 = .ok (.aload_n 0, 1) := by decide +kernel
theorem dX5_carryOut_1 : decode cX5_carryOut 1 = .ok (.iload_n 1, 1) := by decide +kernel
theorem dX5_carryOut_2 : decode cX5_carryOut 2 = .ok (.iconst 1, 1) := by decide +kernel
theorem dX5_carryOut_3 : decode cX5_carryOut 3 = .ok (.bipush 30, 2) := by decide +kernel
theorem dX5_carryOut_5 : decode cX5_carryOut 5 = .ok (.invokestatic 42, 3) := by decide +kernel
theorem dX5_carryOut_8 : decode cX5_carryOut 8 = .ok (.ifCond .ne 7, 3) := by decide +kernel
theorem dX5_carryOut_11 : decode cX5_carryOut 11 = .ok (.iconst 1, 1) := by decide +kernel
theorem dX5_carryOut_12 : decode cX5_carryOut 12 = .ok (.goto 35, 3) := by decide +kernel
theorem dX5_carryOut_15 : decode cX5_carryOut 15 = .ok (.aload_n 0, 1) := by decide +kernel
theorem dX5_carryOut_16 : decode cX5_carryOut 16 = .ok (.getfield 124, 3) := by decide +kernel
theorem dX5_carryOut_19 : decode cX5_carryOut 19 = .ok (.iload_n 1, 1) := by decide +kernel
theorem dX5_carryOut_20 : decode cX5_carryOut 20 = .ok (.aload_n 0, 1) := by decide +kernel
theorem dX5_carryOut_21 : decode cX5_carryOut 21 = .ok (.getfield 137, 3) := by decide +kernel
theorem dX5_carryOut_24 : decode cX5_carryOut 24 = .ok (.if_icmp .ge 7, 3) := by decide +kernel
theorem dX5_carryOut_27 : decode cX5_carryOut 27 = .ok (.iload_n 1, 1) := by decide +kernel
theorem dX5_carryOut_28 : decode cX5_carryOut 28 = .ok (.goto 7, 3) := by decide +kernel
theorem dX5_carryOut_31 : decode cX5_carryOut 31 = .ok (.aload_n 0, 1) := by decide +kernel
theorem dX5_carryOut_32 : decode cX5_carryOut 32 = .ok (.getfield 137, 3) := by decide +kernel
theorem dX5_carryOut_35 : decode cX5_carryOut 35 = .ok (.iadd, 1) := by decide +kernel
theorem dX5_carryOut_36 : decode cX5_carryOut 36 = .ok (.sipush 200, 3) := by decide +kernel
theorem dX5_carryOut_39 : decode cX5_carryOut 39 = .ok (.if_icmp .le 7, 3) := by decide +kernel
theorem dX5_carryOut_42 : decode cX5_carryOut 42 = .ok (.iconst 2, 1) := by decide +kernel
theorem dX5_carryOut_43 : decode cX5_carryOut 43 = .ok (.goto 4, 3) := by decide +kernel
theorem dX5_carryOut_46 : decode cX5_carryOut 46 = .ok (.iconst 0, 1) := by decide +kernel
theorem dX5_carryOut_47 : decode cX5_carryOut 47 = .ok (.putfield 35, 3) := by decide +kernel
theorem dX5_carryOut_50 : decode cX5_carryOut 50 = .ok (.iconst 0, 1) := by decide +kernel
theorem dX5_carryOut_51 : decode cX5_carryOut 51 = .ok (.istore_n 2, 1) := by decide +kernel
theorem dX5_carryOut_52 : decode cX5_carryOut 52 = .ok (.aload_n 0, 1) := by decide +kernel
theorem dX5_carryOut_53 : decode cX5_carryOut 53 = .ok (.getfield 35, 3) := by decide +kernel
theorem dX5_carryOut_56 : decode cX5_carryOut 56 = .ok (.ifCond .ne 47, 3) := by decide +kernel
theorem dX5_carryOut_59 : decode cX5_carryOut 59 = .ok (.iload_n 2, 1) := by decide +kernel
theorem dX5_carryOut_60 : decode cX5_carryOut 60 = .ok (.iload_n 1, 1) := by decide +kernel
theorem dX5_carryOut_61 : decode cX5_carryOut 61 = .ok (.if_icmp .ge 42, 3) := by decide +kernel
theorem dX5_carryOut_64 : decode cX5_carryOut 64 = .ok (.iload_n 2, 1) := by decide +kernel
theorem dX5_carryOut_65 : decode cX5_carryOut 65 = .ok (.aload_n 0, 1) := by decide +kernel
theorem dX5_carryOut_66 : decode cX5_carryOut 66 = .ok (.getfield 137, 3) := by decide +kernel
theorem dX5_carryOut_69 : decode cX5_carryOut 69 = .ok (.if_icmp .ge 34, 3) := by decide +kernel
theorem dX5_carryOut_72 : decode cX5_carryOut 72 = .ok (.aload_n 0, 1) := by decide +kernel
theorem dX5_carryOut_73 : decode cX5_carryOut 73 = .ok (.aload_n 0, 1) := by decide +kernel
theorem dX5_carryOut_74 : decode cX5_carryOut 74 = .ok (.getfield 23, 3) := by decide +kernel
theorem dX5_carryOut_77 : decode cX5_carryOut 77 = .ok (.iload_n 2, 1) := by decide +kernel
theorem dX5_carryOut_78 : decode cX5_carryOut 78 = .ok (.iaload, 1) := by decide +kernel
theorem dX5_carryOut_79 : decode cX5_carryOut 79 = .ok (.bipush 100, 2) := by decide +kernel
theorem dX5_carryOut_81 : decode cX5_carryOut 81 = .ok (.idiv, 1) := by decide +kernel
theorem dX5_carryOut_82 : decode cX5_carryOut 82 = .ok (.aload_n 0, 1) := by decide +kernel
theorem dX5_carryOut_83 : decode cX5_carryOut 83 = .ok (.getfield 23, 3) := by decide +kernel
theorem dX5_carryOut_86 : decode cX5_carryOut 86 = .ok (.iload_n 2, 1) := by decide +kernel
theorem dX5_carryOut_87 : decode cX5_carryOut 87 = .ok (.iaload, 1) := by decide +kernel
theorem dX5_carryOut_88 : decode cX5_carryOut 88 = .ok (.bipush 100, 2) := by decide +kernel
theorem dX5_carryOut_90 : decode cX5_carryOut 90 = .ok (.irem, 1) := by decide +kernel
theorem dX5_carryOut_91 : decode cX5_carryOut 91 = .ok (.invokevirtual 130, 3) := by decide +kernel
theorem dX5_carryOut_94 : decode cX5_carryOut 94 = .ok (.ifCond .ne 9, 3) := by decide +kernel
theorem dX5_carryOut_97 : decode cX5_carryOut 97 = .ok (.iinc 2 1, 3) := by decide +kernel
theorem dX5_carryOut_100 : decode cX5_carryOut 100 = .ok (.goto (-48), 3) := by decide +kernel
theorem dX5_carryOut_103 : decode cX5_carryOut 103 = .ok (.iload_n 2, 1) := by decide +kernel
theorem dX5_carryOut_104 : decode cX5_carryOut 104 = .ok (.istore_n 3, 1) := by decide +kernel
theorem dX5_carryOut_105 : decode cX5_carryOut 105 = .ok (.iload_n 3, 1) := by decide +kernel
theorem dX5_carryOut_106 : decode cX5_carryOut 106 = .ok (.aload_n 0, 1) := by decide +kernel
theorem dX5_carryOut_107 : decode cX5_carryOut 107 = .ok (.getfield 137, 3) := by decide +kernel
theorem dX5_carryOut_110 : decode cX5_carryOut 110 = .ok (.if_icmp .ge 23, 3) := by decide +kernel
theorem dX5_carryOut_113 : decode cX5_carryOut 113 = .ok (.aload_n 0, 1) := by decide +kernel
theorem dX5_carryOut_114 : decode cX5_carryOut 114 = .ok (.getfield 23, 3) := by decide +kernel
theorem dX5_carryOut_117 : decode cX5_carryOut 117 = .ok (.iload_n 3, 1) := by decide +kernel
theorem dX5_carryOut_118 : decode cX5_carryOut 118 = .ok (.iload_n 2, 1) := by decide +kernel
theorem dX5_carryOut_119 : decode cX5_carryOut 119 = .ok (.isub, 1) := by decide +kernel
theorem dX5_carryOut_120 : decode cX5_carryOut 120 = .ok (.aload_n 0, 1) := by decide +kernel
theorem dX5_carryOut_121 : decode cX5_carryOut 121 = .ok (.getfield 23, 3) := by decide +kernel
theorem dX5_carryOut_124 : decode cX5_carryOut 124 = .ok (.iload_n 3, 1) := by decide +kernel
theorem dX5_carryOut_125 : decode cX5_carryOut 125 = .ok (.iaload, 1) := by decide +kernel
theorem dX5_carryOut_126 : decode cX5_carryOut 126 = .ok (.iastore, 1) := by decide +kernel
theorem dX5_carryOut_127 : decode cX5_carryOut 127 = .ok (.iinc 3 1, 3) := by decide +kernel
theorem dX5_carryOut_130 : decode cX5_carryOut 130 = .ok (.goto (-25), 3) := by decide +kernel
theorem dX5_carryOut_133 : decode cX5_carryOut 133 = .ok (.aload_n 0, 1) := by decide +kernel
theorem dX5_carryOut_134 : decode cX5_carryOut 134 = .ok (.dup, 1) := by decide +kernel
theorem dX5_carryOut_135 : decode cX5_carryOut 135 = .ok (.getfield 137, 3) := by decide +kernel
theorem dX5_carryOut_138 : decode cX5_carryOut 138 = .ok (.iload_n 2, 1) := by decide +kernel
theorem dX5_carryOut_139 : decode cX5_carryOut 139 = .ok (.isub, 1) := by decide +kernel
theorem dX5_carryOut_140 : decode cX5_carryOut 140 = .ok (.putfield 137, 3) := by decide +kernel
theorem dX5_carryOut_143 : decode cX5_carryOut 143 = .ok (.iload_n 2, 1) := by decide +kernel
theorem dX5_carryOut_144 : decode cX5_carryOut 144 = .ok (.ireturn, 1) := by decide +kernel
set_option maxRecDepth 20000 in
theorem ggX5_writeBack_X5_opposite : GoodIn wsX5_writeBack wsX5_opposite := goodIn_r _ [9] (by decide +kernel) (by decide +kernel)
set_option maxRecDepth 20000 in
theorem gX5_writeBack_X5_opposite : GoodIn wsX5_writeBack (va_wsS RX5 133 yX5_opposite wsX5_opposite) := goodIn_app (goodIn_of _ (by decide +kernel)) ggX5_writeBack_X5_opposite
theorem dX5_writeBack_0 : decode cX5_writeBack 0 = .ok (.aload_n 0, 1) := by decide +kernel
theorem dX5_writeBack_1 : decode cX5_writeBack 1 = .ok (.iconst 0, 1) := by decide +kernel
theorem dX5_writeBack_2 : decode cX5_writeBack 2 = .ok (.putfield 35, 3) := by decide +kernel
theorem dX5_writeBack_5 : decode cX5_writeBack 5 = .ok (.aload_n 0, 1) := by decide +kernel
theorem dX5_writeBack_6 : decode cX5_writeBack 6 = .ok (.aload_n 0, 1) := by decide +kernel
theorem dX5_writeBack_7 : decode cX5_writeBack 7 = .ok (.getfield 124, 3) := by decide +kernel
theorem dX5_writeBack_10 : decode cX5_writeBack 10 = .ok (.bipush 30, 2) := by decide +kernel
theorem dX5_writeBack_12 : decode cX5_writeBack 12 = .ok (.if_icmp .ge 10, 3) := by decide +kernel
theorem dX5_writeBack_15 : decode cX5_writeBack 15 = .ok (.aload_n 0, 1) := by decide +kernel
theorem dX5_writeBack_16 : decode cX5_writeBack 16 = .ok (.getfield 124, 3) := by decide +kernel
theorem dX5_writeBack_19 : decode cX5_writeBack 19 = .ok (.goto 5, 3) := by decide +kernel
theorem dX5_writeBack_22 : decode cX5_writeBack 22 = .ok (.bipush 30, 2) := by decide +kernel
theorem dX5_writeBack_24 : decode cX5_writeBack 24 = .ok (.putfield 137, 3) := by decide +kernel
theorem dX5_writeBack_27 : decode cX5_writeBack 27 = .ok (.iconst 0, 1) := by decide +kernel
theorem dX5_writeBack_28 : decode cX5_writeBack 28 = .ok (.istore_n 1, 1) := by decide +kernel
theorem dX5_writeBack_29 : decode cX5_writeBack 29 = .ok (.iload_n 1, 1) := by decide +kernel
theorem dX5_writeBack_30 : decode cX5_writeBack 30 = .ok (.aload_n 0, 1) := by decide +kernel
theorem dX5_writeBack_31 : decode cX5_writeBack 31 = .ok (.getfield 137, 3) := by decide +kernel
theorem dX5_writeBack_34 : decode cX5_writeBack 34 = .ok (.if_icmp .ge 31, 3) := by decide +kernel
theorem dX5_writeBack_37 : decode cX5_writeBack 37 = .ok (.aload_n 0, 1) := by decide +kernel
theorem dX5_writeBack_38 : decode cX5_writeBack 38 = .ok (.getfield 23, 3) := by decide +kernel
theorem dX5_writeBack_41 : decode cX5_writeBack 41 = .ok (.iload_n 1, 1) := by decide +kernel
theorem dX5_writeBack_42 : decode cX5_writeBack 42 = .ok (.aload_n 0, 1) := by decide +kernel
theorem dX5_writeBack_43 : decode cX5_writeBack 43 = .ok (.getfield 20, 3) := by decide +kernel
theorem dX5_writeBack_46 : decode cX5_writeBack 46 = .ok (.aload_n 0, 1) := by decide +kernel
theorem dX5_writeBack_47 : decode cX5_writeBack 47 = .ok (.getfield 124, 3) := by decide +kernel
theorem dX5_writeBack_50 : decode cX5_writeBack 50 = .ok (.iconst 1, 1) := by decide +kernel
theorem dX5_writeBack_51 : decode cX5_writeBack 51 = .ok (.isub, 1) := by decide +kernel
theorem dX5_writeBack_52 : decode cX5_writeBack 52 = .ok (.iload_n 1, 1) := by decide +kernel
theorem dX5_writeBack_53 : decode cX5_writeBack 53 = .ok (.isub, 1) := by decide +kernel
theorem dX5_writeBack_54 : decode cX5_writeBack 54 = .ok (.iaload, 1) := by decide +kernel
theorem dX5_writeBack_55 : decode cX5_writeBack 55 = .ok (.invokestatic 133, 3) := by decide +kernel
theorem dX5_writeBack_58 : decode cX5_writeBack 58 = .ok (.iastore, 1) := by decide +kernel
theorem dX5_writeBack_59 : decode cX5_writeBack 59 = .ok (.iinc 1 1, 3) := by decide +kernel
theorem dX5_writeBack_62 : decode cX5_writeBack 62 = .ok (.goto (-33), 3) := by decide +kernel
theorem dX5_writeBack_65 : decode cX5_writeBack 65 = .ok (.aload_n 0, 1) := by decide +kernel
theorem dX5_writeBack_66 : decode cX5_writeBack 66 = .ok (.getfield 137, 3) := by decide +kernel
theorem dX5_writeBack_69 : decode cX5_writeBack 69 = .ok (.ireturn, 1) := by decide +kernel
set_option maxRecDepth 20000 in
theorem ggX5_permit_X5_in : GoodIn wsX5_permit wsX5_in := goodIn_r _ [12] (by decide +kernel) (by decide +kernel)
set_option maxRecDepth 20000 in
theorem gX5_permit_X5_in : GoodIn wsX5_permit (va_wsS RX5 42 yX5_in wsX5_in) := goodIn_app (goodIn_of _ (by decide +kernel)) ggX5_permit_X5_in
set_option maxRecDepth 20000 in
theorem ggX5_permit_X5_heldNow : GoodIn wsX5_permit wsX5_heldNow := goodIn_r _ [16, 3, 8, 7, 35, 36, 37, 38, 39, 40, 41, 42, 43, 44, 45, 46, 47, 48, 49, 50, 51, 52, 53] (by decide +kernel) (by decide +kernel)
set_option maxRecDepth 20000 in
theorem gX5_permit_X5_heldNow : GoodIn wsX5_permit (wsV RX5 94 RX5 yX5_heldNow wsX5_heldNow) := goodIn_app (goodIn_of _ (by decide +kernel)) ggX5_permit_X5_heldNow
set_option maxRecDepth 20000 in
theorem ggX5_permit_X5_has : GoodIn wsX5_permit wsX5_has := goodIn_r _ [19] (by decide +kernel) (by decide +kernel)
set_option maxRecDepth 20000 in
theorem gX5_permit_X5_has : GoodIn wsX5_permit (va_wsS RX5 59 yX5_has wsX5_has) := goodIn_app (goodIn_of _ (by decide +kernel)) ggX5_permit_X5_has
set_option maxRecDepth 20000 in
theorem ggX5_permit_X5_isEarthed : GoodIn wsX5_permit wsX5_isEarthed := goodIn_r _ [23, 24, 25, 26, 11, 27, 28, 29, 30, 17, 18, 19, 35, 36, 37, 38, 39, 40, 41, 42, 43, 44, 45, 46, 47, 48, 49, 50, 51, 52, 53] (by decide +kernel) (by decide +kernel)
set_option maxRecDepth 20000 in
theorem gX5_permit_X5_isEarthed : GoodIn wsX5_permit (wsV RX5 85 RX5 yX5_isEarthed wsX5_isEarthed) := goodIn_app (goodIn_of _ (by decide +kernel)) ggX5_permit_X5_isEarthed
set_option maxRecDepth 20000 in
theorem ggX5_permit_X5_isLive : GoodIn wsX5_permit wsX5_isLive := goodIn_r _ [34, 24, 25, 26, 11, 27, 28, 29, 30, 17, 18, 19, 35, 36, 37, 38, 39, 40, 41, 42, 43, 44, 45, 46, 47, 48, 49, 50, 51, 52, 53] (by decide +kernel) (by decide +kernel)
set_option maxRecDepth 20000 in
theorem gX5_permit_X5_isLive : GoodIn wsX5_permit (wsV RX5 70 RX5 yX5_isLive wsX5_isLive) := goodIn_app (goodIn_of _ (by decide +kernel)) ggX5_permit_X5_isLive
theorem dX5_permit_0 : decode cX5_permit 0 = .ok (.aload_n 0, 1) := by decide +kernel
theorem dX5_permit_1 : decode cX5_permit 1 = .ok (.iload_n 1, 1) := by decide +kernel
theorem dX5_permit_2 : decode cX5_permit 2 = .ok (.iconst 1, 1) := by decide +kernel
theorem dX5_permit_3 : decode cX5_permit 3 = .ok (.iconst 1, 1) := by decide +kernel
theorem dX5_permit_4 : decode cX5_permit 4 = .ok (.aload_n 0, 1) := by decide +kernel
theorem dX5_permit_5 : decode cX5_permit 5 = .ok (.getfield 39, 3) := by decide +kernel
theorem dX5_permit_8 : decode cX5_permit 8 = .ok (.ishl, 1) := by decide +kernel
theorem dX5_permit_9 : decode cX5_permit 9 = .ok (.iconst 1, 1) := by decide +kernel
theorem dX5_permit_10 : decode cX5_permit 10 = .ok (.isub, 1) := by decide +kernel
theorem dX5_permit_11 : decode cX5_permit 11 = .ok (.invokestatic 42, 3) := by decide +kernel
theorem dX5_permit_14 : decode cX5_permit 14 = .ok (.ifCond .eq 7, 3) := by decide +kernel
theorem dX5_permit_17 : decode cX5_permit 17 = .ok (.iconst 0, 1) := by decide +kernel
theorem dX5_permit_18 : decode cX5_permit 18 = .ok (.goto 4, 3) := by decide +kernel
theorem dX5_permit_21 : decode cX5_permit 21 = .ok (.iconst 1, 1) := by decide +kernel
theorem dX5_permit_22 : decode cX5_permit 22 = .ok (.putfield 35, 3) := by decide +kernel
theorem dX5_permit_25 : decode cX5_permit 25 = .ok (.aload_n 0, 1) := by decide +kernel
theorem dX5_permit_26 : decode cX5_permit 26 = .ok (.getfield 73, 3) := by decide +kernel
theorem dX5_permit_29 : decode cX5_permit 29 = .ok (.bipush 10, 2) := by decide +kernel
theorem dX5_permit_31 : decode cX5_permit 31 = .ok (.if_icmp .ge 16, 3) := by decide +kernel
theorem dX5_permit_34 : decode cX5_permit 34 = .ok (.iload_n 1, 1) := by decide +kernel
theorem dX5_permit_35 : decode cX5_permit 35 = .ok (.aload_n 0, 1) := by decide +kernel
theorem dX5_permit_36 : decode cX5_permit 36 = .ok (.invokevirtual 94, 3) := by decide +kernel
theorem dX5_permit_39 : decode cX5_permit 39 = .ok (.iand, 1) := by decide +kernel
theorem dX5_permit_40 : decode cX5_permit 40 = .ok (.ifCond .ne 7, 3) := by decide +kernel
theorem dX5_permit_43 : decode cX5_permit 43 = .ok (.iconst 1, 1) := by decide +kernel
theorem dX5_permit_44 : decode cX5_permit 44 = .ok (.goto 4, 3) := by decide +kernel
theorem dX5_permit_47 : decode cX5_permit 47 = .ok (.iconst 0, 1) := by decide +kernel
theorem dX5_permit_48 : decode cX5_permit 48 = .ok (.istore_n 2, 1) := by decide +kernel
theorem dX5_permit_49 : decode cX5_permit 49 = .ok (.iconst 0, 1) := by decide +kernel
theorem dX5_permit_50 : decode cX5_permit 50 = .ok (.istore_n 3, 1) := by decide +kernel
theorem dX5_permit_51 : decode cX5_permit 51 = .ok (.iload_n 3, 1) := by decide +kernel
theorem dX5_permit_52 : decode cX5_permit 52 = .ok (.aload_n 0, 1) := by decide +kernel
theorem dX5_permit_53 : decode cX5_permit 53 = .ok (.getfield 39, 3) := by decide +kernel
theorem dX5_permit_56 : decode cX5_permit 56 = .ok (.if_icmp .ge 66, 3) := by decide +kernel
theorem dX5_permit_59 : decode cX5_permit 59 = .ok (.aload_n 0, 1) := by decide +kernel
theorem dX5_permit_60 : decode cX5_permit 60 = .ok (.getfield 35, 3) := by decide +kernel
theorem dX5_permit_63 : decode cX5_permit 63 = .ok (.ifCond .ne 59, 3) := by decide +kernel
theorem dX5_permit_66 : decode cX5_permit 66 = .ok (.iload_n 2, 1) := by decide +kernel
theorem dX5_permit_67 : decode cX5_permit 67 = .ok (.ifCond .eq 47, 3) := by decide +kernel
theorem dX5_permit_70 : decode cX5_permit 70 = .ok (.iload_n 1, 1) := by decide +kernel
theorem dX5_permit_71 : decode cX5_permit 71 = .ok (.iload_n 3, 1) := by decide +kernel
theorem dX5_permit_72 : decode cX5_permit 72 = .ok (.invokestatic 59, 3) := by decide +kernel
theorem dX5_permit_75 : decode cX5_permit 75 = .ok (.ifCond .eq 35, 3) := by decide +kernel
theorem dX5_permit_78 : decode cX5_permit 78 = .ok (.aload_n 0, 1) := by decide +kernel
theorem dX5_permit_79 : decode cX5_permit 79 = .ok (.iload_n 3, 1) := by decide +kernel
theorem dX5_permit_80 : decode cX5_permit 80 = .ok (.aload_n 0, 1) := by decide +kernel
theorem dX5_permit_81 : decode cX5_permit 81 = .ok (.getfield 76, 3) := by decide +kernel
theorem dX5_permit_84 : decode cX5_permit 84 = .ok (.aload_n 0, 1) := by decide +kernel
theorem dX5_permit_85 : decode cX5_permit 85 = .ok (.getfield 79, 3) := by decide +kernel
theorem dX5_permit_88 : decode cX5_permit 88 = .ok (.invokevirtual 85, 3) := by decide +kernel
theorem dX5_permit_91 : decode cX5_permit 91 = .ok (.ifCond .eq 23, 3) := by decide +kernel
theorem dX5_permit_94 : decode cX5_permit 94 = .ok (.aload_n 0, 1) := by decide +kernel
theorem dX5_permit_95 : decode cX5_permit 95 = .ok (.iload_n 3, 1) := by decide +kernel
theorem dX5_permit_96 : decode cX5_permit 96 = .ok (.aload_n 0, 1) := by decide +kernel
theorem dX5_permit_97 : decode cX5_permit 97 = .ok (.getfield 76, 3) := by decide +kernel
theorem dX5_permit_100 : decode cX5_permit 100 = .ok (.aload_n 0, 1) := by decide +kernel
theorem dX5_permit_101 : decode cX5_permit 101 = .ok (.getfield 67, 3) := by decide +kernel
theorem dX5_permit_104 : decode cX5_permit 104 = .ok (.invokevirtual 70, 3) := by decide +kernel
theorem dX5_permit_107 : decode cX5_permit 107 = .ok (.ifCond .ne 7, 3) := by decide +kernel
theorem dX5_permit_110 : decode cX5_permit 110 = .ok (.iconst 1, 1) := by decide +kernel
theorem dX5_permit_111 : decode cX5_permit 111 = .ok (.goto 4, 3) := by decide +kernel
theorem dX5_permit_114 : decode cX5_permit 114 = .ok (.iconst 0, 1) := by decide +kernel
theorem dX5_permit_115 : decode cX5_permit 115 = .ok (.istore_n 2, 1) := by decide +kernel
theorem dX5_permit_116 : decode cX5_permit 116 = .ok (.iinc 3 1, 3) := by decide +kernel
theorem dX5_permit_119 : decode cX5_permit 119 = .ok (.goto (-68), 3) := by decide +kernel
theorem dX5_permit_122 : decode cX5_permit 122 = .ok (.aload_n 0, 1) := by decide +kernel
theorem dX5_permit_123 : decode cX5_permit 123 = .ok (.aload_n 0, 1) := by decide +kernel
theorem dX5_permit_124 : decode cX5_permit 124 = .ok (.getfield 35, 3) := by decide +kernel
theorem dX5_permit_127 : decode cX5_permit 127 = .ok (.ifCond .le 7, 3) := by decide +kernel
theorem dX5_permit_130 : decode cX5_permit 130 = .ok (.iconst 1, 1) := by decide +kernel
theorem dX5_permit_131 : decode cX5_permit 131 = .ok (.goto 12, 3) := by decide +kernel
theorem dX5_permit_134 : decode cX5_permit 134 = .ok (.iload_n 2, 1) := by decide +kernel
theorem dX5_permit_135 : decode cX5_permit 135 = .ok (.ifCond .eq 7, 3) := by decide +kernel
theorem dX5_permit_138 : decode cX5_permit 138 = .ok (.iconst 0, 1) := by decide +kernel
theorem dX5_permit_139 : decode cX5_permit 139 = .ok (.goto 4, 3) := by decide +kernel
theorem dX5_permit_142 : decode cX5_permit 142 = .ok (.iconst 2, 1) := by decide +kernel
theorem dX5_permit_143 : decode cX5_permit 143 = .ok (.putfield 35, 3) := by decide +kernel
theorem dX5_permit_146 : decode cX5_permit 146 = .ok (.aload_n 0, 1) := by decide +kernel
theorem dX5_permit_147 : decode cX5_permit 147 = .ok (.getfield 35, 3) := by decide +kernel
theorem dX5_permit_150 : decode cX5_permit 150 = .ok (.ifCond .le 5, 3) := by decide +kernel
theorem dX5_permit_153 : decode cX5_permit 153 = .ok (.iconst 0, 1) := by decide +kernel
theorem dX5_permit_154 : decode cX5_permit 154 = .ok (.ireturn, 1) := by decide +kernel
theorem dX5_permit_155 : decode cX5_permit 155 = .ok (.aload_n 0, 1) := by decide +kernel
theorem dX5_permit_156 : decode cX5_permit 156 = .ok (.getfield 26, 3) := by decide +kernel
theorem dX5_permit_159 : decode cX5_permit 159 = .ok (.aload_n 0, 1) := by decide +kernel
theorem dX5_permit_160 : decode cX5_permit 160 = .ok (.getfield 73, 3) := by decide +kernel
theorem dX5_permit_163 : decode cX5_permit 163 = .ok (.iload_n 1, 1) := by decide +kernel
theorem dX5_permit_164 : decode cX5_permit 164 = .ok (.iastore, 1) := by decide +kernel
theorem dX5_permit_165 : decode cX5_permit 165 = .ok (.aload_n 0, 1) := by decide +kernel
theorem dX5_permit_166 : decode cX5_permit 166 = .ok (.getfield 29, 3) := by decide +kernel
theorem dX5_permit_169 : decode cX5_permit 169 = .ok (.aload_n 0, 1) := by decide +kernel
theorem dX5_permit_170 : decode cX5_permit 170 = .ok (.getfield 73, 3) := by decide +kernel
theorem dX5_permit_173 : decode cX5_permit 173 = .ok (.iconst 1, 1) := by decide +kernel
theorem dX5_permit_174 : decode cX5_permit 174 = .ok (.bastore, 1) := by decide +kernel
theorem dX5_permit_175 : decode cX5_permit 175 = .ok (.aload_n 0, 1) := by decide +kernel
theorem dX5_permit_176 : decode cX5_permit 176 = .ok (.dup, 1) := by decide +kernel
theorem dX5_permit_177 : decode cX5_permit 177 = .ok (.getfield 73, 3) := by decide +kernel
theorem dX5_permit_180 : decode cX5_permit 180 = .ok (.iconst 1, 1) := by decide +kernel
theorem dX5_permit_181 : decode cX5_permit 181 = .ok (.iadd, 1) := by decide +kernel
theorem dX5_permit_182 : decode cX5_permit 182 = .ok (.putfield 73, 3) := by decide +kernel
theorem dX5_permit_185 : decode cX5_permit 185 = .ok (.aload_n 0, 1) := by decide +kernel
theorem dX5_permit_186 : decode cX5_permit 186 = .ok (.getfield 73, 3) := by decide +kernel
theorem dX5_permit_189 : decode cX5_permit 189 = .ok (.iconst 1, 1) := by decide +kernel
theorem dX5_permit_190 : decode cX5_permit 190 = .ok (.isub, 1) := by decide +kernel
theorem dX5_permit_191 : decode cX5_permit 191 = .ok (.ireturn, 1) := by decide +kernel
set_option maxRecDepth 20000 in
theorem ggX5_handBack_X5_in : GoodIn wsX5_handBack wsX5_in := goodIn_r _ [7] (by decide +kernel) (by decide +kernel)
set_option maxRecDepth 20000 in
theorem gX5_handBack_X5_in : GoodIn wsX5_handBack (va_wsS RX5 42 yX5_in wsX5_in) := goodIn_app (goodIn_of _ (by decide +kernel)) ggX5_handBack_X5_in
theorem dX5_handBack_0 : decode cX5_handBack 0 = .ok (.aload_n 0, 1) := by decide +kernel
theorem dX5_handBack_1 : decode cX5_handBack 1 = .ok (.iload_n 1, 1) := by decide +kernel
theorem dX5_handBack_2 : decode cX5_handBack 2 = .ok (.iconst 0, 1) := by decide +kernel
theorem dX5_handBack_3 : decode cX5_handBack 3 = .ok (.aload_n 0, 1) := by decide +kernel
theorem dX5_handBack_4 : decode cX5_handBack 4 = .ok (.getfield 73, 3) := by decide +kernel
theorem dX5_handBack_7 : decode cX5_handBack 7 = .ok (.iconst 1, 1) := by decide +kernel
theorem dX5_handBack_8 : decode cX5_handBack 8 = .ok (.isub, 1) := by decide +kernel
theorem dX5_handBack_9 : decode cX5_handBack 9 = .ok (.invokestatic 42, 3) := by decide +kernel
theorem dX5_handBack_12 : decode cX5_handBack 12 = .ok (.ifCond .ne 7, 3) := by decide +kernel
theorem dX5_handBack_15 : decode cX5_handBack 15 = .ok (.iconst 1, 1) := by decide +kernel
theorem dX5_handBack_16 : decode cX5_handBack 16 = .ok (.goto 17, 3) := by decide +kernel
theorem dX5_handBack_19 : decode cX5_handBack 19 = .ok (.aload_n 0, 1) := by decide +kernel
theorem dX5_handBack_20 : decode cX5_handBack 20 = .ok (.getfield 29, 3) := by decide +kernel
theorem dX5_handBack_23 : decode cX5_handBack 23 = .ok (.iload_n 1, 1) := by decide +kernel
theorem dX5_handBack_24 : decode cX5_handBack 24 = .ok (.baload, 1) := by decide +kernel
theorem dX5_handBack_25 : decode cX5_handBack 25 = .ok (.ifCond .eq 7, 3) := by decide +kernel
theorem dX5_handBack_28 : decode cX5_handBack 28 = .ok (.iconst 0, 1) := by decide +kernel
theorem dX5_handBack_29 : decode cX5_handBack 29 = .ok (.goto 4, 3) := by decide +kernel
theorem dX5_handBack_32 : decode cX5_handBack 32 = .ok (.iconst 2, 1) := by decide +kernel
theorem dX5_handBack_33 : decode cX5_handBack 33 = .ok (.putfield 35, 3) := by decide +kernel
theorem dX5_handBack_36 : decode cX5_handBack 36 = .ok (.aload_n 0, 1) := by decide +kernel
theorem dX5_handBack_37 : decode cX5_handBack 37 = .ok (.getfield 35, 3) := by decide +kernel
theorem dX5_handBack_40 : decode cX5_handBack 40 = .ok (.ifCond .le 5, 3) := by decide +kernel
theorem dX5_handBack_43 : decode cX5_handBack 43 = .ok (.iconst 0, 1) := by decide +kernel
theorem dX5_handBack_44 : decode cX5_handBack 44 = .ok (.ireturn, 1) := by decide +kernel
theorem dX5_handBack_45 : decode cX5_handBack 45 = .ok (.aload_n 0, 1) := by decide +kernel
theorem dX5_handBack_46 : decode cX5_handBack 46 = .ok (.getfield 29, 3) := by decide +kernel
theorem dX5_handBack_49 : decode cX5_handBack 49 = .ok (.iload_n 1, 1) := by decide +kernel
theorem dX5_handBack_50 : decode cX5_handBack 50 = .ok (.iconst 0, 1) := by decide +kernel
theorem dX5_handBack_51 : decode cX5_handBack 51 = .ok (.bastore, 1) := by decide +kernel
theorem dX5_handBack_52 : decode cX5_handBack 52 = .ok (.iconst 0, 1) := by decide +kernel
theorem dX5_handBack_53 : decode cX5_handBack 53 = .ok (.istore_n 2, 1) := by decide +kernel
theorem dX5_handBack_54 : decode cX5_handBack 54 = .ok (.iconst 0, 1) := by decide +kernel
theorem dX5_handBack_55 : decode cX5_handBack 55 = .ok (.istore_n 3, 1) := by decide +kernel
theorem dX5_handBack_56 : decode cX5_handBack 56 = .ok (.iload_n 3, 1) := by decide +kernel
theorem dX5_handBack_57 : decode cX5_handBack 57 = .ok (.aload_n 0, 1) := by decide +kernel
theorem dX5_handBack_58 : decode cX5_handBack 58 = .ok (.getfield 73, 3) := by decide +kernel
theorem dX5_handBack_61 : decode cX5_handBack 61 = .ok (.if_icmp .ge 26, 3) := by decide +kernel
theorem dX5_handBack_64 : decode cX5_handBack 64 = .ok (.iload_n 2, 1) := by decide +kernel
theorem dX5_handBack_65 : decode cX5_handBack 65 = .ok (.aload_n 0, 1) := by decide +kernel
theorem dX5_handBack_66 : decode cX5_handBack 66 = .ok (.getfield 29, 3) := by decide +kernel
theorem dX5_handBack_69 : decode cX5_handBack 69 = .ok (.iload_n 3, 1) := by decide +kernel
theorem dX5_handBack_70 : decode cX5_handBack 70 = .ok (.baload, 1) := by decide +kernel
theorem dX5_handBack_71 : decode cX5_handBack 71 = .ok (.ifCond .eq 7, 3) := by decide +kernel
theorem dX5_handBack_74 : decode cX5_handBack 74 = .ok (.iconst 1, 1) := by decide +kernel
theorem dX5_handBack_75 : decode cX5_handBack 75 = .ok (.goto 4, 3) := by decide +kernel
theorem dX5_handBack_78 : decode cX5_handBack 78 = .ok (.iconst 0, 1) := by decide +kernel
theorem dX5_handBack_79 : decode cX5_handBack 79 = .ok (.iadd, 1) := by decide +kernel
theorem dX5_handBack_80 : decode cX5_handBack 80 = .ok (.istore_n 2, 1) := by decide +kernel
theorem dX5_handBack_81 : decode cX5_handBack 81 = .ok (.iinc 3 1, 3) := by decide +kernel
theorem dX5_handBack_84 : decode cX5_handBack 84 = .ok (.goto (-28), 3) := by decide +kernel
theorem dX5_handBack_87 : decode cX5_handBack 87 = .ok (.iload_n 2, 1) := by decide +kernel
theorem dX5_handBack_88 : decode cX5_handBack 88 = .ok (.ireturn, 1) := by decide +kernel
set_option maxRecDepth 20000 in
theorem ggX5_held_X5_heldNow : GoodIn wsX5_held wsX5_heldNow := goodIn_r _ [6, 7, 8, 9, 10, 11, 12, 13, 14, 15, 16, 17, 18, 19, 20, 21, 22, 23, 24, 25, 26, 27, 28] (by decide +kernel) (by decide +kernel)
set_option maxRecDepth 20000 in
theorem gX5_held_X5_heldNow : GoodIn wsX5_held (wsV RX5 94 RX5 yX5_heldNow wsX5_heldNow) := goodIn_app (goodIn_of _ (by decide +kernel)) ggX5_held_X5_heldNow
theorem dX5_held_0 : decode cX5_held 0 = .ok (.aload_n 0, 1) := by decide +kernel
theorem dX5_held_1 : decode cX5_held 1 = .ok (.iconst 0, 1) := by decide +kernel
theorem dX5_held_2 : decode cX5_held 2 = .ok (.putfield 35, 3) := by decide +kernel
theorem dX5_held_5 : decode cX5_held 5 = .ok (.aload_n 0, 1) := by decide +kernel
theorem dX5_held_6 : decode cX5_held 6 = .ok (.invokevirtual 94, 3) := by decide +kernel
theorem dX5_held_9 : decode cX5_held 9 = .ok (.ireturn, 1) := by decide +kernel
set_option maxRecDepth 20000 in
theorem ggX5_isClosed_X5_isSwitch : GoodIn wsX5_isClosed wsX5_isSwitch := goodIn_r _ [7, 8, 9, 10, 6, 11, 15, 16, 17, 18, 19, 20, 21, 22, 23, 24, 25, 26, 27, 28, 29, 30, 31, 32, 33] (by decide +kernel) (by decide +kernel)
set_option maxRecDepth 20000 in
theorem gX5_isClosed_X5_isSwitch : GoodIn wsX5_isClosed (wsV RX5 118 RX5 yX5_isSwitch wsX5_isSwitch) := goodIn_app (goodIn_of _ (by decide +kernel)) ggX5_isClosed_X5_isSwitch
set_option maxRecDepth 20000 in
theorem ggX5_isClosed_X5_has : GoodIn wsX5_isClosed wsX5_has := goodIn_r _ [14] (by decide +kernel) (by decide +kernel)
set_option maxRecDepth 20000 in
theorem gX5_isClosed_X5_has : GoodIn wsX5_isClosed (va_wsS RX5 59 yX5_has wsX5_has) := goodIn_app (goodIn_of _ (by decide +kernel)) ggX5_isClosed_X5_has
theorem dX5_isClosed_0 : decode cX5_isClosed 0 = .ok (.aload_n 0, 1) := by decide +kernel
theorem dX5_isClosed_1 : decode cX5_isClosed 1 = .ok (.aload_n 0, 1) := by decide +kernel
theorem dX5_isClosed_2 : decode cX5_isClosed 2 = .ok (.iload_n 1, 1) := by decide +kernel
theorem dX5_isClosed_3 : decode cX5_isClosed 3 = .ok (.invokevirtual 118, 3) := by decide +kernel
theorem dX5_isClosed_6 : decode cX5_isClosed 6 = .ok (.ifCond .eq 7, 3) := by decide +kernel
theorem dX5_isClosed_9 : decode cX5_isClosed 9 = .ok (.iconst 0, 1) := by decide +kernel
theorem dX5_isClosed_10 : decode cX5_isClosed 10 = .ok (.goto 4, 3) := by decide +kernel
theorem dX5_isClosed_13 : decode cX5_isClosed 13 = .ok (.iconst 1, 1) := by decide +kernel
theorem dX5_isClosed_14 : decode cX5_isClosed 14 = .ok (.putfield 35, 3) := by decide +kernel
theorem dX5_isClosed_17 : decode cX5_isClosed 17 = .ok (.aload_n 0, 1) := by decide +kernel
theorem dX5_isClosed_18 : decode cX5_isClosed 18 = .ok (.getfield 35, 3) := by decide +kernel
theorem dX5_isClosed_21 : decode cX5_isClosed 21 = .ok (.ifCond .ne 18, 3) := by decide +kernel
theorem dX5_isClosed_24 : decode cX5_isClosed 24 = .ok (.aload_n 0, 1) := by decide +kernel
theorem dX5_isClosed_25 : decode cX5_isClosed 25 = .ok (.getfield 76, 3) := by decide +kernel
theorem dX5_isClosed_28 : decode cX5_isClosed 28 = .ok (.iload_n 1, 1) := by decide +kernel
theorem dX5_isClosed_29 : decode cX5_isClosed 29 = .ok (.invokestatic 59, 3) := by decide +kernel
theorem dX5_isClosed_32 : decode cX5_isClosed 32 = .ok (.ifCond .eq 7, 3) := by decide +kernel
theorem dX5_isClosed_35 : decode cX5_isClosed 35 = .ok (.iconst 1, 1) := by decide +kernel
theorem dX5_isClosed_36 : decode cX5_isClosed 36 = .ok (.goto 4, 3) := by decide +kernel
theorem dX5_isClosed_39 : decode cX5_isClosed 39 = .ok (.iconst 0, 1) := by decide +kernel
theorem dX5_isClosed_40 : decode cX5_isClosed 40 = .ok (.ireturn, 1) := by decide +kernel
set_option maxRecDepth 20000 in
theorem ggX5_live_X5_isLive : GoodIn wsX5_live wsX5_isLive := goodIn_r _ [9, 10, 11, 12, 8, 13, 14, 15, 16, 17, 18, 19, 20, 21, 22, 23, 24, 25, 26, 27, 28, 29, 30, 31, 32, 33, 34, 35, 36, 37, 38] (by decide +kernel) (by decide +kernel)
set_option maxRecDepth 20000 in
theorem gX5_live_X5_isLive : GoodIn wsX5_live (wsV RX5 70 RX5 yX5_isLive wsX5_isLive) := goodIn_app (goodIn_of _ (by decide +kernel)) ggX5_live_X5_isLive
theorem dX5_live_0 : decode cX5_live 0 = .ok (.aload_n 0, 1) := by decide +kernel
theorem dX5_live_1 : decode cX5_live 1 = .ok (.iconst 0, 1) := by decide +kernel
theorem dX5_live_2 : decode cX5_live 2 = .ok (.putfield 35, 3) := by decide +kernel
theorem dX5_live_5 : decode cX5_live 5 = .ok (.iconst 0, 1) := by decide +kernel
theorem dX5_live_6 : decode cX5_live 6 = .ok (.istore_n 1, 1) := by decide +kernel
theorem dX5_live_7 : decode cX5_live 7 = .ok (.iconst 0, 1) := by decide +kernel
theorem dX5_live_8 : decode cX5_live 8 = .ok (.istore_n 2, 1) := by decide +kernel
theorem dX5_live_9 : decode cX5_live 9 = .ok (.iload_n 2, 1) := by decide +kernel
theorem dX5_live_10 : decode cX5_live 10 = .ok (.aload_n 0, 1) := by decide +kernel
theorem dX5_live_11 : decode cX5_live 11 = .ok (.getfield 39, 3) := by decide +kernel
theorem dX5_live_14 : decode cX5_live 14 = .ok (.if_icmp .ge 35, 3) := by decide +kernel
theorem dX5_live_17 : decode cX5_live 17 = .ok (.iload_n 1, 1) := by decide +kernel
theorem dX5_live_18 : decode cX5_live 18 = .ok (.aload_n 0, 1) := by decide +kernel
theorem dX5_live_19 : decode cX5_live 19 = .ok (.iload_n 2, 1) := by decide +kernel
theorem dX5_live_20 : decode cX5_live 20 = .ok (.aload_n 0, 1) := by decide +kernel
theorem dX5_live_21 : decode cX5_live 21 = .ok (.getfield 76, 3) := by decide +kernel
theorem dX5_live_24 : decode cX5_live 24 = .ok (.aload_n 0, 1) := by decide +kernel
theorem dX5_live_25 : decode cX5_live 25 = .ok (.getfield 67, 3) := by decide +kernel
theorem dX5_live_28 : decode cX5_live 28 = .ok (.invokevirtual 70, 3) := by decide +kernel
theorem dX5_live_31 : decode cX5_live 31 = .ok (.ifCond .eq 9, 3) := by decide +kernel
theorem dX5_live_34 : decode cX5_live 34 = .ok (.iconst 1, 1) := by decide +kernel
theorem dX5_live_35 : decode cX5_live 35 = .ok (.iload_n 2, 1) := by decide +kernel
theorem dX5_live_36 : decode cX5_live 36 = .ok (.ishl, 1) := by decide +kernel
theorem dX5_live_37 : decode cX5_live 37 = .ok (.goto 4, 3) := by decide +kernel
theorem dX5_live_40 : decode cX5_live 40 = .ok (.iconst 0, 1) := by decide +kernel
theorem dX5_live_41 : decode cX5_live 41 = .ok (.ior, 1) := by decide +kernel
theorem dX5_live_42 : decode cX5_live 42 = .ok (.istore_n 1, 1) := by decide +kernel
theorem dX5_live_43 : decode cX5_live 43 = .ok (.iinc 2 1, 3) := by decide +kernel
theorem dX5_live_46 : decode cX5_live 46 = .ok (.goto (-37), 3) := by decide +kernel
theorem dX5_live_49 : decode cX5_live 49 = .ok (.iload_n 1, 1) := by decide +kernel
theorem dX5_live_50 : decode cX5_live 50 = .ok (.ireturn, 1) := by decide +kernel
set_option maxRecDepth 20000 in
theorem ggX5_loaded_X5_isLoaded : GoodIn wsX5_loaded wsX5_isLoaded := goodIn_r _ [8, 9, 10, 11, 12, 13, 7, 14, 15, 16, 17, 18, 19, 20, 21, 22, 23, 24, 25, 26, 27, 28, 29, 30, 31, 32, 33, 34, 35, 36, 37, 38, 39, 40, 41, 42, 43] (by decide +kernel) (by decide +kernel)
set_option maxRecDepth 20000 in
theorem gX5_loaded_X5_isLoaded : GoodIn wsX5_loaded (wsV RX5 82 RX5 yX5_isLoaded wsX5_isLoaded) := goodIn_app (goodIn_of _ (by decide +kernel)) ggX5_loaded_X5_isLoaded
theorem dX5_loaded_0 : decode cX5_loaded 0 = .ok (.aload_n 0, 1) := by decide +kernel
theorem dX5_loaded_1 : decode cX5_loaded 1 = .ok (.iconst 0, 1) := by decide +kernel
theorem dX5_loaded_2 : decode cX5_loaded 2 = .ok (.putfield 35, 3) := by decide +kernel
theorem dX5_loaded_5 : decode cX5_loaded 5 = .ok (.iconst 0, 1) := by decide +kernel
theorem dX5_loaded_6 : decode cX5_loaded 6 = .ok (.istore_n 1, 1) := by decide +kernel
theorem dX5_loaded_7 : decode cX5_loaded 7 = .ok (.iconst 0, 1) := by decide +kernel
theorem dX5_loaded_8 : decode cX5_loaded 8 = .ok (.istore_n 2, 1) := by decide +kernel
theorem dX5_loaded_9 : decode cX5_loaded 9 = .ok (.iload_n 2, 1) := by decide +kernel
theorem dX5_loaded_10 : decode cX5_loaded 10 = .ok (.aload_n 0, 1) := by decide +kernel
theorem dX5_loaded_11 : decode cX5_loaded 11 = .ok (.getfield 39, 3) := by decide +kernel
theorem dX5_loaded_14 : decode cX5_loaded 14 = .ok (.if_icmp .ge 31, 3) := by decide +kernel
theorem dX5_loaded_17 : decode cX5_loaded 17 = .ok (.iload_n 1, 1) := by decide +kernel
theorem dX5_loaded_18 : decode cX5_loaded 18 = .ok (.aload_n 0, 1) := by decide +kernel
theorem dX5_loaded_19 : decode cX5_loaded 19 = .ok (.iload_n 2, 1) := by decide +kernel
theorem dX5_loaded_20 : decode cX5_loaded 20 = .ok (.aload_n 0, 1) := by decide +kernel
theorem dX5_loaded_21 : decode cX5_loaded 21 = .ok (.getfield 76, 3) := by decide +kernel
theorem dX5_loaded_24 : decode cX5_loaded 24 = .ok (.invokevirtual 82, 3) := by decide +kernel
theorem dX5_loaded_27 : decode cX5_loaded 27 = .ok (.ifCond .eq 9, 3) := by decide +kernel
theorem dX5_loaded_30 : decode cX5_loaded 30 = .ok (.iconst 1, 1) := by decide +kernel
theorem dX5_loaded_31 : decode cX5_loaded 31 = .ok (.iload_n 2, 1) := by decide +kernel
theorem dX5_loaded_32 : decode cX5_loaded 32 = .ok (.ishl, 1) := by decide +kernel
theorem dX5_loaded_33 : decode cX5_loaded 33 = .ok (.goto 4, 3) := by decide +kernel
theorem dX5_loaded_36 : decode cX5_loaded 36 = .ok (.iconst 0, 1) := by decide +kernel
theorem dX5_loaded_37 : decode cX5_loaded 37 = .ok (.ior, 1) := by decide +kernel
theorem dX5_loaded_38 : decode cX5_loaded 38 = .ok (.istore_n 1, 1) := by decide +kernel
theorem dX5_loaded_39 : decode cX5_loaded 39 = .ok (.iinc 2 1, 3) := by decide +kernel
theorem dX5_loaded_42 : decode cX5_loaded 42 = .ok (.goto (-33), 3) := by decide +kernel
theorem dX5_loaded_45 : decode cX5_loaded 45 = .ok (.iload_n 1, 1) := by decide +kernel
theorem dX5_loaded_46 : decode cX5_loaded 46 = .ok (.ireturn, 1) := by decide +kernel
set_option maxRecDepth 20000 in
theorem ggX5_earthed_X5_isEarthed : GoodIn wsX5_earthed wsX5_isEarthed := goodIn_r _ [9, 10, 11, 12, 8, 13, 14, 15, 16, 17, 18, 19, 20, 21, 22, 23, 24, 25, 26, 27, 28, 29, 30, 31, 32, 33, 34, 35, 36, 37, 38] (by decide +kernel) (by decide +kernel)
set_option maxRecDepth 20000 in
theorem gX5_earthed_X5_isEarthed : GoodIn wsX5_earthed (wsV RX5 85 RX5 yX5_isEarthed wsX5_isEarthed) := goodIn_app (goodIn_of _ (by decide +kernel)) ggX5_earthed_X5_isEarthed
theorem dX5_earthed_0 : decode cX5_earthed 0 = .ok (.aload_n 0, 1) := by decide +kernel
theorem dX5_earthed_1 : decode cX5_earthed 1 = .ok (.iconst 0, 1) := by decide +kernel
theorem dX5_earthed_2 : decode cX5_earthed 2 = .ok (.putfield 35, 3) := by decide +kernel
theorem dX5_earthed_5 : decode cX5_earthed 5 = .ok (.iconst 0, 1) := by decide +kernel
theorem dX5_earthed_6 : decode cX5_earthed 6 = .ok (.istore_n 1, 1) := by decide +kernel
theorem dX5_earthed_7 : decode cX5_earthed 7 = .ok (.iconst 0, 1) := by decide +kernel
theorem dX5_earthed_8 : decode cX5_earthed 8 = .ok (.istore_n 2, 1) := by decide +kernel
theorem dX5_earthed_9 : decode cX5_earthed 9 = .ok (.iload_n 2, 1) := by decide +kernel
theorem dX5_earthed_10 : decode cX5_earthed 10 = .ok (.aload_n 0, 1) := by decide +kernel
theorem dX5_earthed_11 : decode cX5_earthed 11 = .ok (.getfield 39, 3) := by decide +kernel
theorem dX5_earthed_14 : decode cX5_earthed 14 = .ok (.if_icmp .ge 35, 3) := by decide +kernel
theorem dX5_earthed_17 : decode cX5_earthed 17 = .ok (.iload_n 1, 1) := by decide +kernel
theorem dX5_earthed_18 : decode cX5_earthed 18 = .ok (.aload_n 0, 1) := by decide +kernel
theorem dX5_earthed_19 : decode cX5_earthed 19 = .ok (.iload_n 2, 1) := by decide +kernel
theorem dX5_earthed_20 : decode cX5_earthed 20 = .ok (.aload_n 0, 1) := by decide +kernel
theorem dX5_earthed_21 : decode cX5_earthed 21 = .ok (.getfield 76, 3) := by decide +kernel
theorem dX5_earthed_24 : decode cX5_earthed 24 = .ok (.aload_n 0, 1) := by decide +kernel
theorem dX5_earthed_25 : decode cX5_earthed 25 = .ok (.getfield 79, 3) := by decide +kernel
theorem dX5_earthed_28 : decode cX5_earthed 28 = .ok (.invokevirtual 85, 3) := by decide +kernel
theorem dX5_earthed_31 : decode cX5_earthed 31 = .ok (.ifCond .eq 9, 3) := by decide +kernel
theorem dX5_earthed_34 : decode cX5_earthed 34 = .ok (.iconst 1, 1) := by decide +kernel
theorem dX5_earthed_35 : decode cX5_earthed 35 = .ok (.iload_n 2, 1) := by decide +kernel
theorem dX5_earthed_36 : decode cX5_earthed 36 = .ok (.ishl, 1) := by decide +kernel
theorem dX5_earthed_37 : decode cX5_earthed 37 = .ok (.goto 4, 3) := by decide +kernel
theorem dX5_earthed_40 : decode cX5_earthed 40 = .ok (.iconst 0, 1) := by decide +kernel
theorem dX5_earthed_41 : decode cX5_earthed 41 = .ok (.ior, 1) := by decide +kernel
theorem dX5_earthed_42 : decode cX5_earthed 42 = .ok (.istore_n 1, 1) := by decide +kernel
theorem dX5_earthed_43 : decode cX5_earthed 43 = .ok (.iinc 2 1, 3) := by decide +kernel
theorem dX5_earthed_46 : decode cX5_earthed 46 = .ok (.goto (-37), 3) := by decide +kernel
theorem dX5_earthed_49 : decode cX5_earthed 49 = .ok (.iload_n 1, 1) := by decide +kernel
theorem dX5_earthed_50 : decode cX5_earthed 50 = .ok (.ireturn, 1) := by decide +kernel
set_option maxRecDepth 20000 in
theorem ggX5_part_X5_isNode : GoodIn wsX5_part wsX5_isNode := goodIn_r _ [7, 8, 9, 10, 6, 11, 22, 23, 24, 25, 26, 27, 28, 29, 30, 31, 32, 33, 34, 35, 36, 37, 38, 39, 40] (by decide +kernel) (by decide +kernel)
set_option maxRecDepth 20000 in
theorem gX5_part_X5_isNode : GoodIn wsX5_part (wsV RX5 55 RX5 yX5_isNode wsX5_isNode) := goodIn_app (goodIn_of _ (by decide +kernel)) ggX5_part_X5_isNode
set_option maxRecDepth 20000 in
theorem ggX5_part_X5_partOf : GoodIn wsX5_part wsX5_partOf := goodIn_r _ [15, 16, 17, 18, 19, 20, 6, 21, 22, 23, 24, 25, 26, 27, 28, 29, 30, 31, 32, 33, 34, 35, 36, 37, 38, 39, 40] (by decide +kernel) (by decide +kernel)
set_option maxRecDepth 20000 in
theorem gX5_part_X5_partOf : GoodIn wsX5_part (wsV RX5 63 RX5 yX5_partOf wsX5_partOf) := goodIn_app (goodIn_of _ (by decide +kernel)) ggX5_part_X5_partOf
theorem dX5_part_0 : decode cX5_part 0 = .ok (.aload_n 0, 1) := by decide +kernel
theorem dX5_part_1 : decode cX5_part 1 = .ok (.aload_n 0, 1) := by decide +kernel
theorem dX5_part_2 : decode cX5_part 2 = .ok (.iload_n 1, 1) := by decide +kernel
theorem dX5_part_3 : decode cX5_part 3 = .ok (.invokevirtual 55, 3) := by decide +kernel
theorem dX5_part_6 : decode cX5_part 6 = .ok (.ifCond .eq 7, 3) := by decide +kernel
theorem dX5_part_9 : decode cX5_part 9 = .ok (.iconst 0, 1) := by decide +kernel
theorem dX5_part_10 : decode cX5_part 10 = .ok (.goto 4, 3) := by decide +kernel
theorem dX5_part_13 : decode cX5_part 13 = .ok (.iconst 1, 1) := by decide +kernel
theorem dX5_part_14 : decode cX5_part 14 = .ok (.putfield 35, 3) := by decide +kernel
theorem dX5_part_17 : decode cX5_part 17 = .ok (.aload_n 0, 1) := by decide +kernel
theorem dX5_part_18 : decode cX5_part 18 = .ok (.getfield 35, 3) := by decide +kernel
theorem dX5_part_21 : decode cX5_part 21 = .ok (.ifCond .le 7, 3) := by decide +kernel
theorem dX5_part_24 : decode cX5_part 24 = .ok (.iconst 0, 1) := by decide +kernel
theorem dX5_part_25 : decode cX5_part 25 = .ok (.goto 12, 3) := by decide +kernel
theorem dX5_part_28 : decode cX5_part 28 = .ok (.aload_n 0, 1) := by decide +kernel
theorem dX5_part_29 : decode cX5_part 29 = .ok (.iload_n 1, 1) := by decide +kernel
theorem dX5_part_30 : decode cX5_part 30 = .ok (.aload_n 0, 1) := by decide +kernel
theorem dX5_part_31 : decode cX5_part 31 = .ok (.getfield 76, 3) := by decide +kernel
theorem dX5_part_34 : decode cX5_part 34 = .ok (.invokevirtual 63, 3) := by decide +kernel
theorem dX5_part_37 : decode cX5_part 37 = .ok (.ireturn, 1) := by decide +kernel
set_option maxRecDepth 20000 in
theorem ggX5_parts_X5_has : GoodIn wsX5_parts wsX5_has := goodIn_r _ [7] (by decide +kernel) (by decide +kernel)
set_option maxRecDepth 20000 in
theorem gX5_parts_X5_has : GoodIn wsX5_parts (va_wsS RX5 59 yX5_has wsX5_has) := goodIn_app (goodIn_of _ (by decide +kernel)) ggX5_parts_X5_has
set_option maxRecDepth 20000 in
theorem ggX5_parts_X5_partOf : GoodIn wsX5_parts wsX5_partOf := goodIn_r _ [11, 12, 13, 14, 4, 5, 6, 7, 15, 16, 17, 18, 19, 20, 21, 22, 23, 24, 25, 26, 27, 28, 29, 30, 31, 32, 33] (by decide +kernel) (by decide +kernel)
set_option maxRecDepth 20000 in
theorem gX5_parts_X5_partOf : GoodIn wsX5_parts (wsV RX5 63 RX5 yX5_partOf wsX5_partOf) := goodIn_app (goodIn_of _ (by decide +kernel)) ggX5_parts_X5_partOf
theorem dX5_parts_0 : decode cX5_parts 0 = .ok (.aload_n 0, 1) := by decide +kernel
theorem dX5_parts_1 : decode cX5_parts 1 = .ok (.iconst 0, 1) := by decide +kernel
theorem dX5_parts_2 : decode cX5_parts 2 = .ok (.putfield 35, 3) := by decide +kernel
theorem dX5_parts_5 : decode cX5_parts 5 = .ok (.iconst 0, 1) := by decide +kernel
theorem dX5_parts_6 : decode cX5_parts 6 = .ok (.istore_n 1, 1) := by decide +kernel
theorem dX5_parts_7 : decode cX5_parts 7 = .ok (.iconst 0, 1) := by decide +kernel
theorem dX5_parts_8 : decode cX5_parts 8 = .ok (.istore_n 2, 1) := by decide +kernel
theorem dX5_parts_9 : decode cX5_parts 9 = .ok (.iconst 0, 1) := by decide +kernel
theorem dX5_parts_10 : decode cX5_parts 10 = .ok (.istore_n 3, 1) := by decide +kernel
theorem dX5_parts_11 : decode cX5_parts 11 = .ok (.iload_n 3, 1) := by decide +kernel
theorem dX5_parts_12 : decode cX5_parts 12 = .ok (.aload_n 0, 1) := by decide +kernel
theorem dX5_parts_13 : decode cX5_parts 13 = .ok (.getfield 39, 3) := by decide +kernel
theorem dX5_parts_16 : decode cX5_parts 16 = .ok (.if_icmp .ge 37, 3) := by decide +kernel
theorem dX5_parts_19 : decode cX5_parts 19 = .ok (.iload_n 1, 1) := by decide +kernel
theorem dX5_parts_20 : decode cX5_parts 20 = .ok (.iload_n 2, 1) := by decide +kernel
theorem dX5_parts_21 : decode cX5_parts 21 = .ok (.iload_n 3, 1) := by decide +kernel
theorem dX5_parts_22 : decode cX5_parts 22 = .ok (.invokestatic 59, 3) := by decide +kernel
theorem dX5_parts_25 : decode cX5_parts 25 = .ok (.ifCond .eq 7, 3) := by decide +kernel
theorem dX5_parts_28 : decode cX5_parts 28 = .ok (.iconst 0, 1) := by decide +kernel
theorem dX5_parts_29 : decode cX5_parts 29 = .ok (.goto 4, 3) := by decide +kernel
theorem dX5_parts_32 : decode cX5_parts 32 = .ok (.iconst 1, 1) := by decide +kernel
theorem dX5_parts_33 : decode cX5_parts 33 = .ok (.iadd, 1) := by decide +kernel
theorem dX5_parts_34 : decode cX5_parts 34 = .ok (.istore_n 1, 1) := by decide +kernel
theorem dX5_parts_35 : decode cX5_parts 35 = .ok (.iload_n 2, 1) := by decide +kernel
theorem dX5_parts_36 : decode cX5_parts 36 = .ok (.aload_n 0, 1) := by decide +kernel
theorem dX5_parts_37 : decode cX5_parts 37 = .ok (.iload_n 3, 1) := by decide +kernel
theorem dX5_parts_38 : decode cX5_parts 38 = .ok (.aload_n 0, 1) := by decide +kernel
theorem dX5_parts_39 : decode cX5_parts 39 = .ok (.getfield 76, 3) := by decide +kernel
theorem dX5_parts_42 : decode cX5_parts 42 = .ok (.invokevirtual 63, 3) := by decide +kernel
theorem dX5_parts_45 : decode cX5_parts 45 = .ok (.ior, 1) := by decide +kernel
theorem dX5_parts_46 : decode cX5_parts 46 = .ok (.istore_n 2, 1) := by decide +kernel
theorem dX5_parts_47 : decode cX5_parts 47 = .ok (.iinc 3 1, 3) := by decide +kernel
theorem dX5_parts_50 : decode cX5_parts 50 = .ok (.goto (-39), 3) := by decide +kernel
theorem dX5_parts_53 : decode cX5_parts 53 = .ok (.iload_n 1, 1) := by decide +kernel
theorem dX5_parts_54 : decode cX5_parts 54 = .ok (.ireturn, 1) := by decide +kernel
set_option maxRecDepth 20000 in
theorem ggX5_laysFar_X5_has : GoodIn wsX5_laysFar wsX5_has := goodIn_r _ [10] (by decide +kernel) (by decide +kernel)
set_option maxRecDepth 20000 in
theorem gX5_laysFar_X5_has : GoodIn wsX5_laysFar (va_wsS RX5 59 yX5_has wsX5_has) := goodIn_app (goodIn_of _ (by decide +kernel)) ggX5_laysFar_X5_has
theorem dX5_laysFar_0 : decode cX5_laysFar 0 = .ok (.iconst 0, 1) := by decide +kernel
theorem dX5_laysFar_1 : decode cX5_laysFar 1 = .ok (.istore_n 2, 1) := by decide +kernel
theorem dX5_laysFar_2 : decode cX5_laysFar 2 = .ok (.iload_n 2, 1) := by decide +kernel
theorem dX5_laysFar_3 : decode cX5_laysFar 3 = .ok (.aload_n 0, 1) := by decide +kernel
theorem dX5_laysFar_4 : decode cX5_laysFar 4 = .ok (.getfield 39, 3) := by decide +kernel
theorem dX5_laysFar_7 : decode cX5_laysFar 7 = .ok (.if_icmp .ge 27, 3) := by decide +kernel
theorem dX5_laysFar_10 : decode cX5_laysFar 10 = .ok (.aload_n 0, 1) := by decide +kernel
theorem dX5_laysFar_11 : decode cX5_laysFar 11 = .ok (.getfield 32, 3) := by decide +kernel
theorem dX5_laysFar_14 : decode cX5_laysFar 14 = .ok (.iload_n 2, 1) := by decide +kernel
theorem dX5_laysFar_15 : decode cX5_laysFar 15 = .ok (.iload_n 2, 1) := by decide +kernel
theorem dX5_laysFar_16 : decode cX5_laysFar 16 = .ok (.iload_n 1, 1) := by decide +kernel
theorem dX5_laysFar_17 : decode cX5_laysFar 17 = .ok (.if_icmp .ne 7, 3) := by decide +kernel
theorem dX5_laysFar_20 : decode cX5_laysFar 20 = .ok (.iconst 0, 1) := by decide +kernel
theorem dX5_laysFar_21 : decode cX5_laysFar 21 = .ok (.goto 6, 3) := by decide +kernel
theorem dX5_laysFar_24 : decode cX5_laysFar 24 = .ok (.sipush 1000, 3) := by decide +kernel
theorem dX5_laysFar_27 : decode cX5_laysFar 27 = .ok (.iastore, 1) := by decide +kernel
theorem dX5_laysFar_28 : decode cX5_laysFar 28 = .ok (.iinc 2 1, 3) := by decide +kernel
theorem dX5_laysFar_31 : decode cX5_laysFar 31 = .ok (.goto (-29), 3) := by decide +kernel
theorem dX5_laysFar_34 : decode cX5_laysFar 34 = .ok (.iconst 0, 1) := by decide +kernel
theorem dX5_laysFar_35 : decode cX5_laysFar 35 = .ok (.istore_n 2, 1) := by decide +kernel
theorem dX5_laysFar_36 : decode cX5_laysFar 36 = .ok (.iload_n 2, 1) := by decide +kernel
theorem dX5_laysFar_37 : decode cX5_laysFar 37 = .ok (.aload_n 0, 1) := by decide +kernel
theorem dX5_laysFar_38 : decode cX5_laysFar 38 = .ok (.getfield 39, 3) := by decide +kernel
theorem dX5_laysFar_41 : decode cX5_laysFar 41 = .ok (.if_icmp .ge 161, 3) := by decide +kernel
theorem dX5_laysFar_44 : decode cX5_laysFar 44 = .ok (.iconst 0, 1) := by decide +kernel
theorem dX5_laysFar_45 : decode cX5_laysFar 45 = .ok (.istore_n 3, 1) := by decide +kernel
theorem dX5_laysFar_46 : decode cX5_laysFar 46 = .ok (.iload_n 3, 1) := by decide +kernel
theorem dX5_laysFar_47 : decode cX5_laysFar 47 = .ok (.aload_n 0, 1) := by decide +kernel
theorem dX5_laysFar_48 : decode cX5_laysFar 48 = .ok (.getfield 46, 3) := by decide +kernel
theorem dX5_laysFar_51 : decode cX5_laysFar 51 = .ok (.if_icmp .ge 145, 3) := by decide +kernel
theorem dX5_laysFar_54 : decode cX5_laysFar 54 = .ok (.aload_n 0, 1) := by decide +kernel
theorem dX5_laysFar_55 : decode cX5_laysFar 55 = .ok (.getfield 76, 3) := by decide +kernel
theorem dX5_laysFar_58 : decode cX5_laysFar 58 = .ok (.iload_n 3, 1) := by decide +kernel
theorem dX5_laysFar_59 : decode cX5_laysFar 59 = .ok (.invokestatic 59, 3) := by decide +kernel
theorem dX5_laysFar_62 : decode cX5_laysFar 62 = .ok (.ifCond .eq 7, 3) := by decide +kernel
theorem dX5_laysFar_65 : decode cX5_laysFar 65 = .ok (.iconst 0, 1) := by decide +kernel
theorem dX5_laysFar_66 : decode cX5_laysFar 66 = .ok (.goto 4, 3) := by decide +kernel
theorem dX5_laysFar_69 : decode cX5_laysFar 69 = .ok (.iconst 1, 1) := by decide +kernel
theorem dX5_laysFar_70 : decode cX5_laysFar 70 = .ok (.istore 4, 2) := by decide +kernel
theorem dX5_laysFar_72 : decode cX5_laysFar 72 = .ok (.aload_n 0, 1) := by decide +kernel
theorem dX5_laysFar_73 : decode cX5_laysFar 73 = .ok (.getfield 32, 3) := by decide +kernel
theorem dX5_laysFar_76 : decode cX5_laysFar 76 = .ok (.aload_n 0, 1) := by decide +kernel
theorem dX5_laysFar_77 : decode cX5_laysFar 77 = .ok (.getfield 7, 3) := by decide +kernel
theorem dX5_laysFar_80 : decode cX5_laysFar 80 = .ok (.iload_n 3, 1) := by decide +kernel
theorem dX5_laysFar_81 : decode cX5_laysFar 81 = .ok (.iaload, 1) := by decide +kernel
theorem dX5_laysFar_82 : decode cX5_laysFar 82 = .ok (.iaload, 1) := by decide +kernel
theorem dX5_laysFar_83 : decode cX5_laysFar 83 = .ok (.iload 4, 2) := by decide +kernel
theorem dX5_laysFar_85 : decode cX5_laysFar 85 = .ok (.iadd, 1) := by decide +kernel
theorem dX5_laysFar_86 : decode cX5_laysFar 86 = .ok (.istore 5, 2) := by decide +kernel
theorem dX5_laysFar_88 : decode cX5_laysFar 88 = .ok (.aload_n 0, 1) := by decide +kernel
theorem dX5_laysFar_89 : decode cX5_laysFar 89 = .ok (.getfield 32, 3) := by decide +kernel
theorem dX5_laysFar_92 : decode cX5_laysFar 92 = .ok (.aload_n 0, 1) := by decide +kernel
theorem dX5_laysFar_93 : decode cX5_laysFar 93 = .ok (.getfield 13, 3) := by decide +kernel
theorem dX5_laysFar_96 : decode cX5_laysFar 96 = .ok (.iload_n 3, 1) := by decide +kernel
theorem dX5_laysFar_97 : decode cX5_laysFar 97 = .ok (.iaload, 1) := by decide +kernel
theorem dX5_laysFar_98 : decode cX5_laysFar 98 = .ok (.iaload, 1) := by decide +kernel
theorem dX5_laysFar_99 : decode cX5_laysFar 99 = .ok (.iload 4, 2) := by decide +kernel
theorem dX5_laysFar_101 : decode cX5_laysFar 101 = .ok (.iadd, 1) := by decide +kernel
theorem dX5_laysFar_102 : decode cX5_laysFar 102 = .ok (.istore 6, 2) := by decide +kernel
theorem dX5_laysFar_104 : decode cX5_laysFar 104 = .ok (.aload_n 0, 1) := by decide +kernel
theorem dX5_laysFar_105 : decode cX5_laysFar 105 = .ok (.getfield 32, 3) := by decide +kernel
theorem dX5_laysFar_108 : decode cX5_laysFar 108 = .ok (.aload_n 0, 1) := by decide +kernel
theorem dX5_laysFar_109 : decode cX5_laysFar 109 = .ok (.getfield 13, 3) := by decide +kernel
theorem dX5_laysFar_112 : decode cX5_laysFar 112 = .ok (.iload_n 3, 1) := by decide +kernel
theorem dX5_laysFar_113 : decode cX5_laysFar 113 = .ok (.iaload, 1) := by decide +kernel
theorem dX5_laysFar_114 : decode cX5_laysFar 114 = .ok (.iload 5, 2) := by decide +kernel
theorem dX5_laysFar_116 : decode cX5_laysFar 116 = .ok (.aload_n 0, 1) := by decide +kernel
theorem dX5_laysFar_117 : decode cX5_laysFar 117 = .ok (.getfield 32, 3) := by decide +kernel
theorem dX5_laysFar_120 : decode cX5_laysFar 120 = .ok (.aload_n 0, 1) := by decide +kernel
theorem dX5_laysFar_121 : decode cX5_laysFar 121 = .ok (.getfield 13, 3) := by decide +kernel
theorem dX5_laysFar_124 : decode cX5_laysFar 124 = .ok (.iload_n 3, 1) := by decide +kernel
theorem dX5_laysFar_125 : decode cX5_laysFar 125 = .ok (.iaload, 1) := by decide +kernel
theorem dX5_laysFar_126 : decode cX5_laysFar 126 = .ok (.iaload, 1) := by decide +kernel
theorem dX5_laysFar_127 : decode cX5_laysFar 127 = .ok (.if_icmp .ge 8, 3) := by decide +kernel
theorem dX5_laysFar_130 : decode cX5_laysFar 130 = .ok (.iload 5, 2) := by decide +kernel
theorem dX5_laysFar_132 : decode cX5_laysFar 132 = .ok (.goto 14, 3) := by decide +kernel
theorem dX5_laysFar_135 : decode cX5_laysFar 135 = .ok (.aload_n 0, 1) := by decide +kernel
theorem dX5_laysFar_136 : decode cX5_laysFar 136 = .ok (.getfield 32, 3) := by decide +kernel
theorem dX5_laysFar_139 : decode cX5_laysFar 139 = .ok (.aload_n 0, 1) := by decide +kernel
theorem dX5_laysFar_140 : decode cX5_laysFar 140 = .ok (.getfield 13, 3) := by decide +kernel
theorem dX5_laysFar_143 : decode cX5_laysFar 143 = .ok (.iload_n 3, 1) := by decide +kernel
theorem dX5_laysFar_144 : decode cX5_laysFar 144 = .ok (.iaload, 1) := by decide +kernel
theorem dX5_laysFar_145 : decode cX5_laysFar 145 = .ok (.iaload, 1) := by decide +kernel
theorem dX5_laysFar_146 : decode cX5_laysFar 146 = .ok (.iastore, 1) := by decide +kernel
theorem dX5_laysFar_147 : decode cX5_laysFar 147 = .ok (.aload_n 0, 1) := by decide +kernel
theorem dX5_laysFar_148 : decode cX5_laysFar 148 = .ok (.getfield 32, 3) := by decide +kernel
theorem dX5_laysFar_151 : decode cX5_laysFar 151 = .ok (.aload_n 0, 1) := by decide +kernel
theorem dX5_laysFar_152 : decode cX5_laysFar 152 = .ok (.getfield 7, 3) := by decide +kernel
theorem dX5_laysFar_155 : decode cX5_laysFar 155 = .ok (.iload_n 3, 1) := by decide +kernel
theorem dX5_laysFar_156 : decode cX5_laysFar 156 = .ok (.iaload, 1) := by decide +kernel
theorem dX5_laysFar_157 : decode cX5_laysFar 157 = .ok (.iload 6, 2) := by decide +kernel
theorem dX5_laysFar_159 : decode cX5_laysFar 159 = .ok (.aload_n 0, 1) := by decide +kernel
theorem dX5_laysFar_160 : decode cX5_laysFar 160 = .ok (.getfield 32, 3) := by decide +kernel
theorem dX5_laysFar_163 : decode cX5_laysFar 163 = .ok (.aload_n 0, 1) := by decide +kernel
theorem dX5_laysFar_164 : decode cX5_laysFar 164 = .ok (.getfield 7, 3) := by decide +kernel
theorem dX5_laysFar_167 : decode cX5_laysFar 167 = .ok (.iload_n 3, 1) := by decide +kernel
theorem dX5_laysFar_168 : decode cX5_laysFar 168 = .ok (.iaload, 1) := by decide +kernel
theorem dX5_laysFar_169 : decode cX5_laysFar 169 = .ok (.iaload, 1) := by decide +kernel
theorem dX5_laysFar_170 : decode cX5_laysFar 170 = .ok (.if_icmp .ge 8, 3) := by decide +kernel
theorem dX5_laysFar_173 : decode cX5_laysFar 173 = .ok (.iload 6, 2) := by decide +kernel
theorem dX5_laysFar_175 : decode cX5_laysFar 175 = .ok (.goto 14, 3) := by decide +kernel
theorem dX5_laysFar_178 : decode cX5_laysFar 178 = .ok (.aload_n 0, 1) := by decide +kernel
theorem dX5_laysFar_179 : decode cX5_laysFar 179 = .ok (.getfield 32, 3) := by decide +kernel
theorem dX5_laysFar_182 : decode cX5_laysFar 182 = .ok (.aload_n 0, 1) := by decide +kernel
theorem dX5_laysFar_183 : decode cX5_laysFar 183 = .ok (.getfield 7, 3) := by decide +kernel
theorem dX5_laysFar_186 : decode cX5_laysFar 186 = .ok (.iload_n 3, 1) := by decide +kernel
theorem dX5_laysFar_187 : decode cX5_laysFar 187 = .ok (.iaload, 1) := by decide +kernel
theorem dX5_laysFar_188 : decode cX5_laysFar 188 = .ok (.iaload, 1) := by decide +kernel
theorem dX5_laysFar_189 : decode cX5_laysFar 189 = .ok (.iastore, 1) := by decide +kernel
theorem dX5_laysFar_190 : decode cX5_laysFar 190 = .ok (.iinc 3 1, 3) := by decide +kernel
theorem dX5_laysFar_193 : decode cX5_laysFar 193 = .ok (.goto (-147), 3) := by decide +kernel
theorem dX5_laysFar_196 : decode cX5_laysFar 196 = .ok (.iinc 2 1, 3) := by decide +kernel
theorem dX5_laysFar_199 : decode cX5_laysFar 199 = .ok (.goto (-163), 3) := by decide +kernel
theorem dX5_laysFar_202 : decode cX5_laysFar 202 = .ok (.return_, 1) := by decide +kernel
set_option maxRecDepth 20000 in
theorem ggX5_toLive_X5_isNode : GoodIn wsX5_toLive wsX5_isNode := goodIn_r _ [9, 2, 10, 11, 8, 12, 24, 25, 26, 27, 28, 29, 30, 31, 32, 33, 34, 35, 36, 37, 38, 39, 40, 41, 42] (by decide +kernel) (by decide +kernel)
set_option maxRecDepth 20000 in
theorem gX5_toLive_X5_isNode : GoodIn wsX5_toLive (wsV RX5 55 RX5 yX5_isNode wsX5_isNode) := goodIn_app (goodIn_of _ (by decide +kernel)) ggX5_toLive_X5_isNode
set_option maxRecDepth 20000 in
theorem ggX5_toLive_X5_laysFar : GoodIn wsX5_toLive wsX5_laysFar := goodIn_r _ [16, 2, 4, 17, 18, 19, 20, 21, 22, 8, 23, 24, 25, 26, 27, 28, 29, 30, 31, 32, 33, 34, 35, 36, 37, 38, 39, 40, 41, 42] (by decide +kernel) (by decide +kernel)
set_option maxRecDepth 20000 in
theorem gX5_toLive_X5_laysFar : GoodIn wsX5_toLive (wsV RX5 140 RX5 yX5_laysFar wsX5_laysFar) := goodIn_app (goodIn_of _ (by decide +kernel)) ggX5_toLive_X5_laysFar
set_option maxRecDepth 20000 in
theorem ggX5_toLive_X5_has : GoodIn wsX5_toLive wsX5_has := goodIn_r _ [23] (by decide +kernel) (by decide +kernel)
set_option maxRecDepth 20000 in
theorem gX5_toLive_X5_has : GoodIn wsX5_toLive (va_wsS RX5 59 yX5_has wsX5_has) := goodIn_app (goodIn_of _ (by decide +kernel)) ggX5_toLive_X5_has
theorem dX5_toLive_0 : decode cX5_toLive 0 = .ok (.aload_n 0, 1) := by decide +kernel
theorem dX5_toLive_1 : decode cX5_toLive 1 = .ok (.aload_n 0, 1) := by decide +kernel
theorem dX5_toLive_2 : decode cX5_toLive 2 = .ok (.iload_n 1, 1) := by decide +kernel
theorem dX5_toLive_3 : decode cX5_toLive 3 = .ok (.invokevirtual 55, 3) := by decide +kernel
theorem dX5_toLive_6 : decode cX5_toLive 6 = .ok (.ifCond .eq 7, 3) := by decide +kernel
theorem dX5_toLive_9 : decode cX5_toLive 9 = .ok (.iconst 0, 1) := by decide +kernel
theorem dX5_toLive_10 : decode cX5_toLive 10 = .ok (.goto 4, 3) := by decide +kernel
theorem dX5_toLive_13 : decode cX5_toLive 13 = .ok (.iconst 1, 1) := by decide +kernel
theorem dX5_toLive_14 : decode cX5_toLive 14 = .ok (.putfield 35, 3) := by decide +kernel
theorem dX5_toLive_17 : decode cX5_toLive 17 = .ok (.aload_n 0, 1) := by decide +kernel
theorem dX5_toLive_18 : decode cX5_toLive 18 = .ok (.getfield 35, 3) := by decide +kernel
theorem dX5_toLive_21 : decode cX5_toLive 21 = .ok (.ifCond .le 5, 3) := by decide +kernel
theorem dX5_toLive_24 : decode cX5_toLive 24 = .ok (.iconst 0, 1) := by decide +kernel
theorem dX5_toLive_25 : decode cX5_toLive 25 = .ok (.ireturn, 1) := by decide +kernel
theorem dX5_toLive_26 : decode cX5_toLive 26 = .ok (.aload_n 0, 1) := by decide +kernel
theorem dX5_toLive_27 : decode cX5_toLive 27 = .ok (.iload_n 1, 1) := by decide +kernel
theorem dX5_toLive_28 : decode cX5_toLive 28 = .ok (.invokevirtual 140, 3) := by decide +kernel
theorem dX5_toLive_31 : decode cX5_toLive 31 = .ok (.sipush 1000, 3) := by decide +kernel
theorem dX5_toLive_34 : decode cX5_toLive 34 = .ok (.istore_n 2, 1) := by decide +kernel
theorem dX5_toLive_35 : decode cX5_toLive 35 = .ok (.iconst 0, 1) := by decide +kernel
theorem dX5_toLive_36 : decode cX5_toLive 36 = .ok (.istore_n 3, 1) := by decide +kernel
theorem dX5_toLive_37 : decode cX5_toLive 37 = .ok (.iload_n 3, 1) := by decide +kernel
theorem dX5_toLive_38 : decode cX5_toLive 38 = .ok (.aload_n 0, 1) := by decide +kernel
theorem dX5_toLive_39 : decode cX5_toLive 39 = .ok (.getfield 39, 3) := by decide +kernel
theorem dX5_toLive_42 : decode cX5_toLive 42 = .ok (.if_icmp .ge 41, 3) := by decide +kernel
theorem dX5_toLive_45 : decode cX5_toLive 45 = .ok (.aload_n 0, 1) := by decide +kernel
theorem dX5_toLive_46 : decode cX5_toLive 46 = .ok (.getfield 67, 3) := by decide +kernel
theorem dX5_toLive_49 : decode cX5_toLive 49 = .ok (.iload_n 3, 1) := by decide +kernel
theorem dX5_toLive_50 : decode cX5_toLive 50 = .ok (.invokestatic 59, 3) := by decide +kernel
theorem dX5_toLive_53 : decode cX5_toLive 53 = .ok (.ifCond .eq 22, 3) := by decide +kernel
theorem dX5_toLive_56 : decode cX5_toLive 56 = .ok (.aload_n 0, 1) := by decide +kernel
theorem dX5_toLive_57 : decode cX5_toLive 57 = .ok (.getfield 32, 3) := by decide +kernel
theorem dX5_toLive_60 : decode cX5_toLive 60 = .ok (.iload_n 3, 1) := by decide +kernel
theorem dX5_toLive_61 : decode cX5_toLive 61 = .ok (.iaload, 1) := by decide +kernel
theorem dX5_toLive_62 : decode cX5_toLive 62 = .ok (.iload_n 2, 1) := by decide +kernel
theorem dX5_toLive_63 : decode cX5_toLive 63 = .ok (.if_icmp .ge 12, 3) := by decide +kernel
theorem dX5_toLive_66 : decode cX5_toLive 66 = .ok (.aload_n 0, 1) := by decide +kernel
theorem dX5_toLive_67 : decode cX5_toLive 67 = .ok (.getfield 32, 3) := by decide +kernel
theorem dX5_toLive_70 : decode cX5_toLive 70 = .ok (.iload_n 3, 1) := by decide +kernel
theorem dX5_toLive_71 : decode cX5_toLive 71 = .ok (.iaload, 1) := by decide +kernel
theorem dX5_toLive_72 : decode cX5_toLive 72 = .ok (.goto 4, 3) := by decide +kernel
theorem dX5_toLive_75 : decode cX5_toLive 75 = .ok (.iload_n 2, 1) := by decide +kernel
theorem dX5_toLive_76 : decode cX5_toLive 76 = .ok (.istore_n 2, 1) := by decide +kernel
theorem dX5_toLive_77 : decode cX5_toLive 77 = .ok (.iinc 3 1, 3) := by decide +kernel
theorem dX5_toLive_80 : decode cX5_toLive 80 = .ok (.goto (-43), 3) := by decide +kernel
theorem dX5_toLive_83 : decode cX5_toLive 83 = .ok (.aload_n 0, 1) := by decide +kernel
theorem dX5_toLive_84 : decode cX5_toLive 84 = .ok (.iload_n 2, 1) := by decide +kernel
theorem dX5_toLive_85 : decode cX5_toLive 85 = .ok (.sipush 1000, 3) := by decide +kernel
theorem dX5_toLive_88 : decode cX5_toLive 88 = .ok (.if_icmp .ne 7, 3) := by decide +kernel
theorem dX5_toLive_91 : decode cX5_toLive 91 = .ok (.iconst 2, 1) := by decide +kernel
theorem dX5_toLive_92 : decode cX5_toLive 92 = .ok (.goto 4, 3) := by decide +kernel
theorem dX5_toLive_95 : decode cX5_toLive 95 = .ok (.iconst 0, 1) := by decide +kernel
theorem dX5_toLive_96 : decode cX5_toLive 96 = .ok (.putfield 35, 3) := by decide +kernel
theorem dX5_toLive_99 : decode cX5_toLive 99 = .ok (.aload_n 0, 1) := by decide +kernel
theorem dX5_toLive_100 : decode cX5_toLive 100 = .ok (.getfield 35, 3) := by decide +kernel
theorem dX5_toLive_103 : decode cX5_toLive 103 = .ok (.ifCond .le 7, 3) := by decide +kernel
theorem dX5_toLive_106 : decode cX5_toLive 106 = .ok (.iconst 0, 1) := by decide +kernel
theorem dX5_toLive_107 : decode cX5_toLive 107 = .ok (.goto 4, 3) := by decide +kernel
theorem dX5_toLive_110 : decode cX5_toLive 110 = .ok (.iload_n 2, 1) := by decide +kernel
theorem dX5_toLive_111 : decode cX5_toLive 111 = .ok (.ireturn, 1) := by decide +kernel
theorem dJ9_min_7cf53_0 : decode cJ9_min_7cf53 0 = .ok (.iload_n 0, 1) := by decide +kernel
theorem dJ9_min_7cf53_1 : decode cJ9_min_7cf53 1 = .ok (.iload_n 1, 1) := by decide +kernel
theorem dJ9_min_7cf53_2 : decode cJ9_min_7cf53 2 = .ok (.if_icmp .gt 7, 3) := by decide +kernel
theorem dJ9_min_7cf53_5 : decode cJ9_min_7cf53 5 = .ok (.iload_n 0, 1) := by decide +kernel
theorem dJ9_min_7cf53_6 : decode cJ9_min_7cf53 6 = .ok (.goto 4, 3) := by decide +kernel
theorem dJ9_min_7cf53_9 : decode cJ9_min_7cf53 9 = .ok (.iload_n 1, 1) := by decide +kernel
theorem dJ9_min_7cf53_10 : decode cJ9_min_7cf53 10 = .ok (.ireturn, 1) := by decide +kernel
