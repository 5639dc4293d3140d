theorem dX0_init_0 : decode cX0_init 0 = .ok (.aload_n 0, 1) := by decide +kernel
theorem dX0_init_1 : decode cX0_init 1 = .ok (.invokespecial 1, 3) := by decide +kernel
theorem dX0_init_4 : decode cX0_init 4 = .ok (.aload_n 0, 1) := by decide +kernel
theorem dX0_init_5 : decode cX0_init 5 = .ok (.iload_n 1, 1) := by decide +kernel
theorem dX0_init_6 : decode cX0_init 6 = .ok (.newarray .int, 2) := by decide +kernel
theorem dX0_init_8 : decode cX0_init 8 = .ok (.putfield 7, 3) := by decide +kernel
theorem dX0_init_11 : decode cX0_init 11 = .ok (.return_, 1) := by decide +kernel
theorem dX0_size_0 : decode cX0_size 0 = .ok (.aload_n 0, 1) := by decide +kernel
theorem dX0_size_1 : decode cX0_size 1 = .ok (.getfield 13, 3) := by decide +kernel
theorem dX0_size_4 : decode cX0_size 4 = .ok (.ireturn, 1) := by decide +kernel
theorem dX0_get_0 : decode cX0_get 0 = .ok (.aload_n 0, 1) := by decide +kernel
theorem dX0_get_1 : decode cX0_get 1 = .ok (.getfield 7, 3) := by decide +kernel
theorem dX0_get_4 : decode cX0_get 4 = .ok (.iload_n 1, 1) := by decide +kernel
theorem dX0_get_5 : decode cX0_get 5 = .ok (.iaload, 1) := by decide +kernel
theorem dX0_get_6 : decode cX0_get 6 = .ok (.ireturn, 1) := by decide +kernel
theorem dX0_latest_0 : decode cX0_latest 0 = .ok (.aload_n 0, 1) := by decide +kernel
theorem dX0_latest_1 : decode cX0_latest 1 = .ok (.getfield 7, 3) := by decide +kernel
theorem dX0_latest_4 : decode cX0_latest 4 = .ok (.aload_n 0, 1) := by decide +kernel
theorem dX0_latest_5 : decode cX0_latest 5 = .ok (.getfield 13, 3) := by decide +kernel
theorem dX0_latest_8 : decode cX0_latest 8 = .ok (.iconst 1, 1) := by decide +kernel
theorem dX0_latest_9 : decode cX0_latest 9 = .ok (.isub, 1) := by decide +kernel
theorem dX0_latest_10 : decode cX0_latest 10 = .ok (.iload_n 1, 1) := by decide +kernel
theorem dX0_latest_11 : decode cX0_latest 11 = .ok (.isub, 1) := by decide +kernel
theorem dX0_latest_12 : decode cX0_latest 12 = .ok (.iaload, 1) := by decide +kernel
theorem dX0_latest_13 : decode cX0_latest 13 = .ok (.ireturn, 1) := by decide +kernel
theorem dX0_append_0 : decode cX0_append 0 = .ok (.aload_n 0, 1) := by decide +kernel
theorem dX0_append_1 : decode cX0_append 1 = .ok (.getfield 7, 3) := by decide +kernel
theorem dX0_append_4 : decode cX0_append 4 = .ok (.aload_n 0, 1) := by decide +kernel
theorem dX0_append_5 : decode cX0_append 5 = .ok (.getfield 13, 3) := by decide +kernel
theorem dX0_append_8 : decode cX0_append 8 = .ok (.iload_n 1, 1) := by decide +kernel
theorem dX0_append_9 : decode cX0_append 9 = .ok (.iastore, 1) := by decide +kernel
theorem dX0_append_10 : decode cX0_append 10 = .ok (.aload_n 0, 1) := by decide +kernel
theorem dX0_append_11 : decode cX0_append 11 = .ok (.dup, 1) := by decide +kernel
theorem dX0_append_12 : decode cX0_append 12 = .ok (.getfield 13, 3) := by decide +kernel
theorem dX0_append_15 : decode cX0_append 15 = .ok (.iconst 1, 1) := by decide +kernel
theorem dX0_append_16 : decode cX0_append 16 = .ok (.iadd, 1) := by decide +kernel
theorem dX0_append_17 : decode cX0_append 17 = .ok (.putfield 13, 3) := by decide +kernel
theorem dX0_append_20 : decode cX0_append 20 = .ok (.return_, 1) := by decide +kernel
theorem dX0_dropLast_0 : decode cX0_dropLast 0 = .ok (.aload_n 0, 1) := by decide +kernel
theorem dX0_dropLast_1 : decode cX0_dropLast 1 = .ok (.dup, 1) := by decide +kernel
theorem dX0_dropLast_2 : decode cX0_dropLast 2 = .ok (.getfield 13, 3) := by decide +kernel
theorem dX0_dropLast_5 : decode cX0_dropLast 5 = .ok (.iconst 1, 1) := by decide +kernel
theorem dX0_dropLast_6 : decode cX0_dropLast 6 = .ok (.isub, 1) := by decide +kernel
theorem dX0_dropLast_7 : decode cX0_dropLast 7 = .ok (.putfield 13, 3) := by decide +kernel
theorem dX0_dropLast_10 : decode cX0_dropLast 10 = .ok (.return_, 1) := by decide +kernel
theorem dX0_dropFirst_0 : decode cX0_dropFirst 0 = .ok (.iload_n 1, 1) := by decide +kernel
theorem dX0_dropFirst_1 : decode cX0_dropFirst 1 = .ok (.istore_n 2, 1) := by decide +kernel
theorem dX0_dropFirst_2 : decode cX0_dropFirst 2 = .ok (.iload_n 2, 1) := by decide +kernel
theorem dX0_dropFirst_3 : decode cX0_dropFirst 3 = .ok (.aload_n 0, 1) := by decide +kernel
theorem dX0_dropFirst_4 : decode cX0_dropFirst 4 = .ok (.getfield 13, 3) := by decide +kernel
theorem dX0_dropFirst_7 : decode cX0_dropFirst 7 = .ok (.if_icmp .ge 23, 3) := by decide +kernel
theorem dX0_dropFirst_10 : decode cX0_dropFirst 10 = .ok (.aload_n 0, 1) := by decide +kernel
theorem dX0_dropFirst_11 : decode cX0_dropFirst 11 = .ok (.getfield 7, 3) := by decide +kernel
theorem dX0_dropFirst_14 : decode cX0_dropFirst 14 = .ok (.iload_n 2, 1) := by decide +kernel
theorem dX0_dropFirst_15 : decode cX0_dropFirst 15 = .ok (.iload_n 1, 1) := by decide +kernel
theorem dX0_dropFirst_16 : decode cX0_dropFirst 16 = .ok (.isub, 1) := by decide +kernel
theorem dX0_dropFirst_17 : decode cX0_dropFirst 17 = .ok (.aload_n 0, 1) := by decide +kernel
theorem dX0_dropFirst_18 : decode cX0_dropFirst 18 = .ok (.getfield 7, 3) := by decide +kernel
theorem dX0_dropFirst_21 : decode cX0_dropFirst 21 = .ok (.iload_n 2, 1) := by decide +kernel
theorem dX0_dropFirst_22 : decode cX0_dropFirst 22 = .ok (.iaload, 1) := by decide +kernel
theorem dX0_dropFirst_23 : decode cX0_dropFirst 23 = .ok (.iastore, 1) := by decide +kernel
theorem dX0_dropFirst_24 : decode cX0_dropFirst 24 = .ok (.iinc 2 1, 3) := by decide +kernel
theorem dX0_dropFirst_27 : decode cX0_dropFirst 27 = .ok (.goto (-25), 3) := by decide +kernel
theorem dX0_dropFirst_30 : decode cX0_dropFirst 30 = .ok (.aload_n 0, 1) := by decide +kernel
theorem dX0_dropFirst_31 : decode cX0_dropFirst 31 = .ok (.dup, 1) := by decide +kernel
theorem dX0_dropFirst_32 : decode cX0_dropFirst 32 = .ok (.getfield 13, 3) := by decide +kernel
theorem dX0_dropFirst_35 : decode cX0_dropFirst 35 = .ok (.iload_n 1, 1) := by decide +kernel
theorem dX0_dropFirst_36 : decode cX0_dropFirst 36 = .ok (.isub, 1) := by decide +kernel
theorem dX0_dropFirst_37 : decode cX0_dropFirst 37 = .ok (.putfield 13, 3) := by decide +kernel
theorem dX0_dropFirst_40 : decode cX0_dropFirst 40 = .ok (.return_, 1) := by decide +kernel
theorem dX0_count_0 : decode cX0_count 0 = .ok (.iconst 0, 1) := by decide +kernel
theorem dX0_count_1 : decode cX0_count 1 = .ok (.istore_n 2, 1) := by decide +kernel
theorem dX0_count_2 : decode cX0_count 2 = .ok (.iconst 0, 1) := by decide +kernel
theorem dX0_count_3 : decode cX0_count 3 = .ok (.istore_n 3, 1) := by decide +kernel
theorem dX0_count_4 : decode cX0_count 4 = .ok (.iload_n 3, 1) := by decide +kernel
theorem dX0_count_5 : decode cX0_count 5 = .ok (.aload_n 0, 1) := by decide +kernel
theorem dX0_count_6 : decode cX0_count 6 = .ok (.getfield 13, 3) := by decide +kernel
theorem dX0_count_9 : decode cX0_count 9 = .ok (.if_icmp .ge 27, 3) := by decide +kernel
theorem dX0_count_12 : decode cX0_count 12 = .ok (.iload_n 2, 1) := by decide +kernel
theorem dX0_count_13 : decode cX0_count 13 = .ok (.aload_n 0, 1) := by decide +kernel
theorem dX0_count_14 : decode cX0_count 14 = .ok (.getfield 7, 3) := by decide +kernel
theorem dX0_count_17 : decode cX0_count 17 = .ok (.iload_n 3, 1) := by decide +kernel
theorem dX0_count_18 : decode cX0_count 18 = .ok (.iaload, 1) := by decide +kernel
theorem dX0_count_19 : decode cX0_count 19 = .ok (.iload_n 1, 1) := by decide +kernel
theorem dX0_count_20 : decode cX0_count 20 = .ok (.if_icmp .ne 7, 3) := by decide +kernel
theorem dX0_count_23 : decode cX0_count 23 = .ok (.iconst 1, 1) := by decide +kernel
theorem dX0_count_24 : decode cX0_count 24 = .ok (.goto 4, 3) := by decide +kernel
theorem dX0_count_27 : decode cX0_count 27 = .ok (.iconst 0, 1) := by decide +kernel
theorem dX0_count_28 : decode cX0_count 28 = .ok (.iadd, 1) := by decide +kernel
theorem dX0_count_29 : decode cX0_count 29 = .ok (.istore_n 2, 1) := by decide +kernel
theorem dX0_count_30 : decode cX0_count 30 = .ok (.iinc 3 1, 3) := by decide +kernel
theorem dX0_count_33 : decode cX0_count 33 = .ok (.goto (-29), 3) := by decide +kernel
theorem dX0_count_36 : decode cX0_count 36 = .ok (.iload_n 2, 1) := by decide +kernel
theorem dX0_count_37 : decode cX0_count 37 = .ok (.ireturn, 1) := by decide +kernel
theorem dX1_init_0 : decode cX1_init 0 = .ok (.aload_n 0, 1) := by decide +kernel
theorem dX1_init_1 : decode cX1_init 1 = .ok (.invokespecial 3, 3) := by decide +kernel
theorem dX1_init_4 : decode cX1_init 4 = .ok (.aload_n 0, 1) := by decide +kernel
theorem dX1_init_5 : decode cX1_init 5 = .ok (.bipush 24, 2) := by decide +kernel
theorem dX1_init_7 : decode cX1_init 7 = .ok (.newarray .int, 2) := by decide +kernel
theorem dX1_init_9 : decode cX1_init 9 = .ok (.putfield 9, 3) := by decide +kernel
theorem dX1_init_12 : decode cX1_init 12 = .ok (.return_, 1) := by decide +kernel
theorem dX1_nodeCount_0 : decode cX1_nodeCount 0 = .ok (.aload_n 0, 1) := by decide +kernel
theorem dX1_nodeCount_1 : decode cX1_nodeCount 1 = .ok (.getfield 15, 3) := by decide +kernel
theorem dX1_nodeCount_4 : decode cX1_nodeCount 4 = .ok (.ireturn, 1) := by decide +kernel
theorem dX1_switchCount_0 : decode cX1_switchCount 0 = .ok (.aload_n 0, 1) := by decide +kernel
theorem dX1_switchCount_1 : decode cX1_switchCount 1 = .ok (.getfield 19, 3) := by decide +kernel
theorem dX1_switchCount_4 : decode cX1_switchCount 4 = .ok (.ireturn, 1) := by decide +kernel
theorem dX1_allNodes_0 : decode cX1_allNodes 0 = .ok (.iconst 1, 1) := by decide +kernel
theorem dX1_allNodes_1 : decode cX1_allNodes 1 = .ok (.aload_n 0, 1) := by decide +kernel
theorem dX1_allNodes_2 : decode cX1_allNodes 2 = .ok (.getfield 15, 3) := by decide +kernel
theorem dX1_allNodes_5 : decode cX1_allNodes 5 = .ok (.ishl, 1) := by decide +kernel
theorem dX1_allNodes_6 : decode cX1_allNodes 6 = .ok (.iconst 1, 1) := by decide +kernel
theorem dX1_allNodes_7 : decode cX1_allNodes 7 = .ok (.isub, 1) := by decide +kernel
theorem dX1_allNodes_8 : decode cX1_allNodes 8 = .ok (.ireturn, 1) := by decide +kernel
theorem dX1_hasNode_0 : decode cX1_hasNode 0 = .ok (.iload_n 1, 1) := by decide +kernel
theorem dX1_hasNode_1 : decode cX1_hasNode 1 = .ok (.ifCond .lt 15, 3) := by decide +kernel
theorem dX1_hasNode_4 : decode cX1_hasNode 4 = .ok (.iload_n 1, 1) := by decide +kernel
theorem dX1_hasNode_5 : decode cX1_hasNode 5 = .ok (.aload_n 0, 1) := by decide +kernel
theorem dX1_hasNode_6 : decode cX1_hasNode 6 = .ok (.getfield 15, 3) := by decide +kernel
theorem dX1_hasNode_9 : decode cX1_hasNode 9 = .ok (.if_icmp .ge 7, 3) := by decide +kernel
theorem dX1_hasNode_12 : decode cX1_hasNode 12 = .ok (.iconst 1, 1) := by decide +kernel
theorem dX1_hasNode_13 : decode cX1_hasNode 13 = .ok (.goto 4, 3) := by decide +kernel
theorem dX1_hasNode_16 : decode cX1_hasNode 16 = .ok (.iconst 0, 1) := by decide +kernel
theorem dX1_hasNode_17 : decode cX1_hasNode 17 = .ok (.ireturn, 1) := by decide +kernel
theorem dX1_hasSwitch_0 : decode cX1_hasSwitch 0 = .ok (.iload_n 1, 1) := by decide +kernel
theorem dX1_hasSwitch_1 : decode cX1_hasSwitch 1 = .ok (.ifCond .lt 15, 3) := by decide +kernel
theorem dX1_hasSwitch_4 : decode cX1_hasSwitch 4 = .ok (.iload_n 1, 1) := by decide +kernel
theorem dX1_hasSwitch_5 : decode cX1_hasSwitch 5 = .ok (.aload_n 0, 1) := by decide +kernel
theorem dX1_hasSwitch_6 : decode cX1_hasSwitch 6 = .ok (.getfield 19, 3) := by decide +kernel
theorem dX1_hasSwitch_9 : decode cX1_hasSwitch 9 = .ok (.if_icmp .ge 7, 3) := by decide +kernel
theorem dX1_hasSwitch_12 : decode cX1_hasSwitch 12 = .ok (.iconst 1, 1) := by decide +kernel
theorem dX1_hasSwitch_13 : decode cX1_hasSwitch 13 = .ok (.goto 4, 3) := by decide +kernel
theorem dX1_hasSwitch_16 : decode cX1_hasSwitch 16 = .ok (.iconst 0, 1) := by decide +kernel
theorem dX1_hasSwitch_17 : decode cX1_hasSwitch 17 = .ok (.ireturn, 1) := by decide +kernel
theorem dX1_appendNode_0 : decode cX1_appendNode 0 = .ok (.iconst 1, 1) := by decide +kernel
theorem dX1_appendNode_1 : decode cX1_appendNode 1 = .ok (.aload_n 0, 1) := by decide +kernel
theorem dX1_appendNode_2 : decode cX1_appendNode 2 = .ok (.getfield 15, 3) := by decide +kernel
theorem dX1_appendNode_5 : decode cX1_appendNode 5 = .ok (.ishl, 1) := by decide +kernel
theorem dX1_appendNode_6 : decode cX1_appendNode 6 = .ok (.istore_n 3, 1) := by decide +kernel
theorem dX1_appendNode_7 : decode cX1_appendNode 7 = .ok (.aload_n 0, 1) := by decide +kernel
theorem dX1_appendNode_8 : decode cX1_appendNode 8 = .ok (.dup, 1) := by decide +kernel
theorem dX1_appendNode_9 : decode cX1_appendNode 9 = .ok (.getfield 22, 3) := by decide +kernel
theorem dX1_appendNode_12 : decode cX1_appendNode 12 = .ok (.iload_n 1, 1) := by decide +kernel
theorem dX1_appendNode_13 : decode cX1_appendNode 13 = .ok (.ifCond .eq 7, 3) := by decide +kernel
theorem dX1_appendNode_16 : decode cX1_appendNode 16 = .ok (.iload_n 3, 1) := by decide +kernel
theorem dX1_appendNode_17 : decode cX1_appendNode 17 = .ok (.goto 4, 3) := by decide +kernel
theorem dX1_appendNode_20 : decode cX1_appendNode 20 = .ok (.iconst 0, 1) := by decide +kernel
theorem dX1_appendNode_21 : decode cX1_appendNode 21 = .ok (.ior, 1) := by decide +kernel
theorem dX1_appendNode_22 : decode cX1_appendNode 22 = .ok (.putfield 22, 3) := by decide +kernel
theorem dX1_appendNode_25 : decode cX1_appendNode 25 = .ok (.aload_n 0, 1) := by decide +kernel
theorem dX1_appendNode_26 : decode cX1_appendNode 26 = .ok (.dup, 1) := by decide +kernel
theorem dX1_appendNode_27 : decode cX1_appendNode 27 = .ok (.getfield 25, 3) := by decide +kernel
theorem dX1_appendNode_30 : decode cX1_appendNode 30 = .ok (.iload_n 2, 1) := by decide +kernel
theorem dX1_appendNode_31 : decode cX1_appendNode 31 = .ok (.ifCond .eq 7, 3) := by decide +kernel
theorem dX1_appendNode_34 : decode cX1_appendNode 34 = .ok (.iload_n 3, 1) := by decide +kernel
theorem dX1_appendNode_35 : decode cX1_appendNode 35 = .ok (.goto 4, 3) := by decide +kernel
theorem dX1_appendNode_38 : decode cX1_appendNode 38 = .ok (.iconst 0, 1) := by decide +kernel
theorem dX1_appendNode_39 : decode cX1_appendNode 39 = .ok (.ior, 1) := by decide +kernel
theorem dX1_appendNode_40 : decode cX1_appendNode 40 = .ok (.putfield 25, 3) := by decide +kernel
theorem dX1_appendNode_43 : decode cX1_appendNode 43 = .ok (.aload_n 0, 1) := by decide +kernel
theorem dX1_appendNode_44 : decode cX1_appendNode 44 = .ok (.dup, 1) := by decide +kernel
theorem dX1_appendNode_45 : decode cX1_appendNode 45 = .ok (.getfield 15, 3) := by decide +kernel
theorem dX1_appendNode_48 : decode cX1_appendNode 48 = .ok (.dup_x1, 1) := by decide +kernel
theorem dX1_appendNode_49 : decode cX1_appendNode 49 = .ok (.iconst 1, 1) := by decide +kernel
theorem dX1_appendNode_50 : decode cX1_appendNode 50 = .ok (.iadd, 1) := by decide +kernel
theorem dX1_appendNode_51 : decode cX1_appendNode 51 = .ok (.putfield 15, 3) := by decide +kernel
theorem dX1_appendNode_54 : decode cX1_appendNode 54 = .ok (.ireturn, 1) := by decide +kernel
theorem dX1_appendSwitch_0 : decode cX1_appendSwitch 0 = .ok (.aload_n 0, 1) := by decide +kernel
theorem dX1_appendSwitch_1 : decode cX1_appendSwitch 1 = .ok (.getfield 9, 3) := by decide +kernel
theorem dX1_appendSwitch_4 : decode cX1_appendSwitch 4 = .ok (.aload_n 0, 1) := by decide +kernel
theorem dX1_appendSwitch_5 : decode cX1_appendSwitch 5 = .ok (.getfield 19, 3) := by decide +kernel
theorem dX1_appendSwitch_8 : decode cX1_appendSwitch 8 = .ok (.iconst 1, 1) := by decide +kernel
theorem dX1_appendSwitch_9 : decode cX1_appendSwitch 9 = .ok (.iload_n 1, 1) := by decide +kernel
theorem dX1_appendSwitch_10 : decode cX1_appendSwitch 10 = .ok (.ishl, 1) := by decide +kernel
theorem dX1_appendSwitch_11 : decode cX1_appendSwitch 11 = .ok (.iconst 1, 1) := by decide +kernel
theorem dX1_appendSwitch_12 : decode cX1_appendSwitch 12 = .ok (.iload_n 2, 1) := by decide +kernel
theorem dX1_appendSwitch_13 : decode cX1_appendSwitch 13 = .ok (.ishl, 1) := by decide +kernel
theorem dX1_appendSwitch_14 : decode cX1_appendSwitch 14 = .ok (.ior, 1) := by decide +kernel
theorem dX1_appendSwitch_15 : decode cX1_appendSwitch 15 = .ok (.iastore, 1) := by decide +kernel
theorem dX1_appendSwitch_16 : decode cX1_appendSwitch 16 = .ok (.aload_n 0, 1) := by decide +kernel
theorem dX1_appendSwitch_17 : decode cX1_appendSwitch 17 = .ok (.dup, 1) := by decide +kernel
theorem dX1_appendSwitch_18 : decode cX1_appendSwitch 18 = .ok (.getfield 28, 3) := by decide +kernel
theorem dX1_appendSwitch_21 : decode cX1_appendSwitch 21 = .ok (.iload_n 3, 1) := by decide +kernel
theorem dX1_appendSwitch_22 : decode cX1_appendSwitch 22 = .ok (.ifCond .eq 12, 3) := by decide +kernel
theorem dX1_appendSwitch_25 : decode cX1_appendSwitch 25 = .ok (.iconst 1, 1) := by decide +kernel
theorem dX1_appendSwitch_26 : decode cX1_appendSwitch 26 = .ok (.aload_n 0, 1) := by decide +kernel
theorem dX1_appendSwitch_27 : decode cX1_appendSwitch 27 = .ok (.getfield 19, 3) := by decide +kernel
theorem dX1_appendSwitch_30 : decode cX1_appendSwitch 30 = .ok (.ishl, 1) := by decide +kernel
theorem dX1_appendSwitch_31 : decode cX1_appendSwitch 31 = .ok (.goto 4, 3) := by decide +kernel
theorem dX1_appendSwitch_34 : decode cX1_appendSwitch 34 = .ok (.iconst 0, 1) := by decide +kernel
theorem dX1_appendSwitch_35 : decode cX1_appendSwitch 35 = .ok (.ior, 1) := by decide +kernel
theorem dX1_appendSwitch_36 : decode cX1_appendSwitch 36 = .ok (.putfield 28, 3) := by decide +kernel
theorem dX1_appendSwitch_39 : decode cX1_appendSwitch 39 = .ok (.aload_n 0, 1) := by decide +kernel
theorem dX1_appendSwitch_40 : decode cX1_appendSwitch 40 = .ok (.dup, 1) := by decide +kernel
theorem dX1_appendSwitch_41 : decode cX1_appendSwitch 41 = .ok (.getfield 19, 3) := by decide +kernel
theorem dX1_appendSwitch_44 : decode cX1_appendSwitch 44 = .ok (.dup_x1, 1) := by decide +kernel
theorem dX1_appendSwitch_45 : decode cX1_appendSwitch 45 = .ok (.iconst 1, 1) := by decide +kernel
theorem dX1_appendSwitch_46 : decode cX1_appendSwitch 46 = .ok (.iadd, 1) := by decide +kernel
theorem dX1_appendSwitch_47 : decode cX1_appendSwitch 47 = .ok (.putfield 19, 3) := by decide +kernel
theorem dX1_appendSwitch_50 : decode cX1_appendSwitch 50 = .ok (.ireturn, 1) := by decide +kernel
theorem dX1_hasSource_0 : decode cX1_hasSource 0 = .ok (.aload_n 0, 1) := by decide +kernel
theorem dX1_hasSource_1 : decode cX1_hasSource 1 = .ok (.getfield 22, 3) := by decide +kernel
theorem dX1_hasSource_4 : decode cX1_hasSource 4 = .ok (.iload_n 1, 1) := by decide +kernel
theorem dX1_hasSource_5 : decode cX1_hasSource 5 = .ok (.ishr, 1) := by decide +kernel
theorem dX1_hasSource_6 : decode cX1_hasSource 6 = .ok (.iconst 1, 1) := by decide +kernel
theorem dX1_hasSource_7 : decode cX1_hasSource 7 = .ok (.iand, 1) := by decide +kernel
theorem dX1_hasSource_8 : decode cX1_hasSource 8 = .ok (.ifCond .eq 7, 3) := by decide +kernel
theorem dX1_hasSource_11 : decode cX1_hasSource 11 = .ok (.iconst 1, 1) := by decide +kernel
theorem dX1_hasSource_12 : decode cX1_hasSource 12 = .ok (.goto 4, 3) := by decide +kernel
theorem dX1_hasSource_15 : decode cX1_hasSource 15 = .ok (.iconst 0, 1) := by decide +kernel
theorem dX1_hasSource_16 : decode cX1_hasSource 16 = .ok (.ireturn, 1) := by decide +kernel
theorem dX1_isBreaker_0 : decode cX1_isBreaker 0 = .ok (.aload_n 0, 1) := by decide +kernel
theorem dX1_isBreaker_1 : decode cX1_isBreaker 1 = .ok (.getfield 28, 3) := by decide +kernel
theorem dX1_isBreaker_4 : decode cX1_isBreaker 4 = .ok (.iload_n 1, 1) := by decide +kernel
theorem dX1_isBreaker_5 : decode cX1_isBreaker 5 = .ok (.ishr, 1) := by decide +kernel
theorem dX1_isBreaker_6 : decode cX1_isBreaker 6 = .ok (.iconst 1, 1) := by decide +kernel
theorem dX1_isBreaker_7 : decode cX1_isBreaker 7 = .ok (.iand, 1) := by decide +kernel
theorem dX1_isBreaker_8 : decode cX1_isBreaker 8 = .ok (.ifCond .eq 7, 3) := by decide +kernel
theorem dX1_isBreaker_11 : decode cX1_isBreaker 11 = .ok (.iconst 1, 1) := by decide +kernel
theorem dX1_isBreaker_12 : decode cX1_isBreaker 12 = .ok (.goto 4, 3) := by decide +kernel
theorem dX1_isBreaker_15 : decode cX1_isBreaker 15 = .ok (.iconst 0, 1) := by decide +kernel
theorem dX1_isBreaker_16 : decode cX1_isBreaker 16 = .ok (.ireturn, 1) := by decide +kernel
theorem dX1_endsOf_0 : decode cX1_endsOf 0 = .ok (.aload_n 0, 1) := by decide +kernel
theorem dX1_endsOf_1 : decode cX1_endsOf 1 = .ok (.getfield 9, 3) := by decide +kernel
theorem dX1_endsOf_4 : decode cX1_endsOf 4 = .ok (.iload_n 1, 1) := by decide +kernel
theorem dX1_endsOf_5 : decode cX1_endsOf 5 = .ok (.iaload, 1) := by decide +kernel
theorem dX1_endsOf_6 : decode cX1_endsOf 6 = .ok (.ireturn, 1) := by decide +kernel
set_option maxRecDepth 20000 in
theorem ggX1_liveNodes_X1_connectedWith : GoodIn wsX1_liveNodes wsX1_connectedWith := goodIn_r _ [5, 6, 7, 8, 12, 13, 14, 15, 16, 17, 9, 10, 11] (by decide +kernel) (by decide +kernel)
set_option maxRecDepth 20000 in
theorem gX1_liveNodes_X1_connectedWith : GoodIn wsX1_liveNodes (wsV RX1 34 RX1 yX1_connectedWith wsX1_connectedWith) := goodIn_app (goodIn_of _ (by decide +kernel)) ggX1_liveNodes_X1_connectedWith
theorem dX1_liveNodes_0 : decode cX1_liveNodes 0 = .ok (.aload_n 0, 1) := by decide +kernel
theorem dX1_liveNodes_1 : decode cX1_liveNodes 1 = .ok (.aload_n 1, 1) := by decide +kernel
theorem dX1_liveNodes_2 : decode cX1_liveNodes 2 = .ok (.getfield 31, 3) := by decide +kernel
theorem dX1_liveNodes_5 : decode cX1_liveNodes 5 = .ok (.aload_n 1, 1) := by decide +kernel
theorem dX1_liveNodes_6 : decode cX1_liveNodes 6 = .ok (.invokevirtual 34, 3) := by decide +kernel
theorem dX1_liveNodes_9 : decode cX1_liveNodes 9 = .ok (.ireturn, 1) := by decide +kernel
set_option maxRecDepth 20000 in
theorem ggX1_earthedNodes_X1_connectedWith : GoodIn wsX1_earthedNodes wsX1_connectedWith := goodIn_r _ [5, 6, 7, 8, 12, 13, 14, 15, 16, 17, 9, 10, 11] (by decide +kernel) (by decide +kernel)
set_option maxRecDepth 20000 in
theorem gX1_earthedNodes_X1_connectedWith : GoodIn wsX1_earthedNodes (wsV RX1 34 RX1 yX1_connectedWith wsX1_connectedWith) := goodIn_app (goodIn_of _ (by decide +kernel)) ggX1_earthedNodes_X1_connectedWith
theorem dX1_earthedNodes_0 : decode cX1_earthedNodes 0 = .ok (.aload_n 0, 1) := by decide +kernel
theorem dX1_earthedNodes_1 : decode cX1_earthedNodes 1 = .ok (.aload_n 1, 1) := by decide +kernel
theorem dX1_earthedNodes_2 : decode cX1_earthedNodes 2 = .ok (.getfield 38, 3) := by decide +kernel
theorem dX1_earthedNodes_5 : decode cX1_earthedNodes 5 = .ok (.aload_n 1, 1) := by decide +kernel
theorem dX1_earthedNodes_6 : decode cX1_earthedNodes 6 = .ok (.invokevirtual 34, 3) := by decide +kernel
theorem dX1_earthedNodes_9 : decode cX1_earthedNodes 9 = .ok (.ireturn, 1) := by decide +kernel
set_option maxRecDepth 20000 in
theorem ggX1_loadedNodes_X1_connectedWith : GoodIn wsX1_loadedNodes wsX1_connectedWith := goodIn_r _ [6, 7, 8, 9, 13, 14, 15, 16, 17, 18, 10, 11, 12] (by decide +kernel) (by decide +kernel)
set_option maxRecDepth 20000 in
theorem gX1_loadedNodes_X1_connectedWith : GoodIn wsX1_loadedNodes (wsV RX1 34 RX1 yX1_connectedWith wsX1_connectedWith) := goodIn_app (goodIn_of _ (by decide +kernel)) ggX1_loadedNodes_X1_connectedWith
theorem dX1_loadedNodes_0 : decode cX1_loadedNodes 0 = .ok (.aload_n 0, 1) := by decide +kernel
theorem dX1_loadedNodes_1 : decode cX1_loadedNodes 1 = .ok (.aload_n 1, 1) := by decide +kernel
theorem dX1_loadedNodes_2 : decode cX1_loadedNodes 2 = .ok (.getfield 31, 3) := by decide +kernel
theorem dX1_loadedNodes_5 : decode cX1_loadedNodes 5 = .ok (.aload_n 1, 1) := by decide +kernel
theorem dX1_loadedNodes_6 : decode cX1_loadedNodes 6 = .ok (.invokevirtual 34, 3) := by decide +kernel
theorem dX1_loadedNodes_9 : decode cX1_loadedNodes 9 = .ok (.aload_n 0, 1) := by decide +kernel
theorem dX1_loadedNodes_10 : decode cX1_loadedNodes 10 = .ok (.aload_n 0, 1) := by decide +kernel
theorem dX1_loadedNodes_11 : decode cX1_loadedNodes 11 = .ok (.getfield 25, 3) := by decide +kernel
theorem dX1_loadedNodes_14 : decode cX1_loadedNodes 14 = .ok (.aload_n 1, 1) := by decide +kernel
theorem dX1_loadedNodes_15 : decode cX1_loadedNodes 15 = .ok (.invokevirtual 34, 3) := by decide +kernel
theorem dX1_loadedNodes_18 : decode cX1_loadedNodes 18 = .ok (.iand, 1) := by decide +kernel
theorem dX1_loadedNodes_19 : decode cX1_loadedNodes 19 = .ok (.ireturn, 1) := by decide +kernel
set_option maxRecDepth 20000 in
theorem ggX1_areEndsConnected_X1_connectedWith : GoodIn wsX1_areEndsConnected wsX1_connectedWith := goodIn_r _ [6, 7, 8, 1, 9, 10, 11, 12, 13, 14, 15, 16, 17] (by decide +kernel) (by decide +kernel)
set_option maxRecDepth 20000 in
theorem gX1_areEndsConnected_X1_connectedWith : GoodIn wsX1_areEndsConnected (wsV RX1 34 RX1 yX1_connectedWith wsX1_connectedWith) := goodIn_app (goodIn_of _ (by decide +kernel)) ggX1_areEndsConnected_X1_connectedWith
theorem dX1_areEndsConnected_0 : decode cX1_areEndsConnected 0 = .ok (.aload_n 0, 1) := by decide +kernel
theorem dX1_areEndsConnected_1 : decode cX1_areEndsConnected 1 = .ok (.getfield 9, 3) := by decide +kernel
theorem dX1_areEndsConnected_4 : decode cX1_areEndsConnected 4 = .ok (.iload_n 1, 1) := by decide +kernel
theorem dX1_areEndsConnected_5 : decode cX1_areEndsConnected 5 = .ok (.iaload, 1) := by decide +kernel
theorem dX1_areEndsConnected_6 : decode cX1_areEndsConnected 6 = .ok (.istore_n 3, 1) := by decide +kernel
theorem dX1_areEndsConnected_7 : decode cX1_areEndsConnected 7 = .ok (.iload_n 3, 1) := by decide +kernel
theorem dX1_areEndsConnected_8 : decode cX1_areEndsConnected 8 = .ok (.iload_n 3, 1) := by decide +kernel
theorem dX1_areEndsConnected_9 : decode cX1_areEndsConnected 9 = .ok (.ineg, 1) := by decide +kernel
theorem dX1_areEndsConnected_10 : decode cX1_areEndsConnected 10 = .ok (.iand, 1) := by decide +kernel
theorem dX1_areEndsConnected_11 : decode cX1_areEndsConnected 11 = .ok (.istore 4, 2) := by decide +kernel
theorem dX1_areEndsConnected_13 : decode cX1_areEndsConnected 13 = .ok (.aload_n 0, 1) := by decide +kernel
theorem dX1_areEndsConnected_14 : decode cX1_areEndsConnected 14 = .ok (.iload 4, 2) := by decide +kernel
theorem dX1_areEndsConnected_16 : decode cX1_areEndsConnected 16 = .ok (.aload_n 2, 1) := by decide +kernel
theorem dX1_areEndsConnected_17 : decode cX1_areEndsConnected 17 = .ok (.invokevirtual 34, 3) := by decide +kernel
theorem dX1_areEndsConnected_20 : decode cX1_areEndsConnected 20 = .ok (.iload_n 3, 1) := by decide +kernel
theorem dX1_areEndsConnected_21 : decode cX1_areEndsConnected 21 = .ok (.iand, 1) := by decide +kernel
theorem dX1_areEndsConnected_22 : decode cX1_areEndsConnected 22 = .ok (.iload_n 3, 1) := by decide +kernel
theorem dX1_areEndsConnected_23 : decode cX1_areEndsConnected 23 = .ok (.if_icmp .ne 7, 3) := by decide +kernel
theorem dX1_areEndsConnected_26 : decode cX1_areEndsConnected 26 = .ok (.iconst 1, 1) := by decide +kernel
theorem dX1_areEndsConnected_27 : decode cX1_areEndsConnected 27 = .ok (.goto 4, 3) := by decide +kernel
theorem dX1_areEndsConnected_30 : decode cX1_areEndsConnected 30 = .ok (.iconst 0, 1) := by decide +kernel
theorem dX1_areEndsConnected_31 : decode cX1_areEndsConnected 31 = .ok (.ireturn, 1) := by decide +kernel
set_option maxRecDepth 20000 in
theorem ggX1_countParts_X1_allNodes : GoodIn wsX1_countParts wsX1_allNodes := goodIn_r _ [6, 1, 13, 14, 15, 16, 17, 18] (by decide +kernel) (by decide +kernel)
set_option maxRecDepth 20000 in
theorem gX1_countParts_X1_allNodes : GoodIn wsX1_countParts (wsV RX1 41 RX1 yX1_allNodes wsX1_allNodes) := goodIn_app (goodIn_of _ (by decide +kernel)) ggX1_countParts_X1_allNodes
set_option maxRecDepth 20000 in
theorem ggX1_countParts_X1_connectedWith : GoodIn wsX1_countParts wsX1_connectedWith := goodIn_r _ [10, 1, 11, 12, 13, 14, 15, 16, 17, 18, 19, 20, 21] (by decide +kernel) (by decide +kernel)
set_option maxRecDepth 20000 in
theorem gX1_countParts_X1_connectedWith : GoodIn wsX1_countParts (wsV RX1 34 RX1 yX1_connectedWith wsX1_connectedWith) := goodIn_app (goodIn_of _ (by decide +kernel)) ggX1_countParts_X1_connectedWith
theorem dX1_countParts_0 : decode cX1_countParts 0 = .ok (.aload_n 0, 1) := by decide +kernel
theorem dX1_countParts_1 : decode cX1_countParts 1 = .ok (.invokevirtual 41, 3) := by decide +kernel
theorem dX1_countParts_4 : decode cX1_countParts 4 = .ok (.istore_n 2, 1) := by decide +kernel
theorem dX1_countParts_5 : decode cX1_countParts 5 = .ok (.iconst 0, 1) := by decide +kernel
theorem dX1_countParts_6 : decode cX1_countParts 6 = .ok (.istore_n 3, 1) := by decide +kernel
theorem dX1_countParts_7 : decode cX1_countParts 7 = .ok (.iconst 0, 1) := by decide +kernel
theorem dX1_countParts_8 : decode cX1_countParts 8 = .ok (.istore 4, 2) := by decide +kernel
theorem dX1_countParts_10 : decode cX1_countParts 10 = .ok (.iload 4, 2) := by decide +kernel
theorem dX1_countParts_12 : decode cX1_countParts 12 = .ok (.aload_n 0, 1) := by decide +kernel
theorem dX1_countParts_13 : decode cX1_countParts 13 = .ok (.getfield 15, 3) := by decide +kernel
theorem dX1_countParts_16 : decode cX1_countParts 16 = .ok (.if_icmp .ge 35, 3) := by decide +kernel
theorem dX1_countParts_19 : decode cX1_countParts 19 = .ok (.iload_n 2, 1) := by decide +kernel
theorem dX1_countParts_20 : decode cX1_countParts 20 = .ok (.iload 4, 2) := by decide +kernel
theorem dX1_countParts_22 : decode cX1_countParts 22 = .ok (.ishr, 1) := by decide +kernel
theorem dX1_countParts_23 : decode cX1_countParts 23 = .ok (.iconst 1, 1) := by decide +kernel
theorem dX1_countParts_24 : decode cX1_countParts 24 = .ok (.iand, 1) := by decide +kernel
theorem dX1_countParts_25 : decode cX1_countParts 25 = .ok (.ifCond .eq 20, 3) := by decide +kernel
theorem dX1_countParts_28 : decode cX1_countParts 28 = .ok (.iload_n 2, 1) := by decide +kernel
theorem dX1_countParts_29 : decode cX1_countParts 29 = .ok (.aload_n 0, 1) := by decide +kernel
theorem dX1_countParts_30 : decode cX1_countParts 30 = .ok (.iconst 1, 1) := by decide +kernel
theorem dX1_countParts_31 : decode cX1_countParts 31 = .ok (.iload 4, 2) := by decide +kernel
theorem dX1_countParts_33 : decode cX1_countParts 33 = .ok (.ishl, 1) := by decide +kernel
theorem dX1_countParts_34 : decode cX1_countParts 34 = .ok (.aload_n 1, 1) := by decide +kernel
theorem dX1_countParts_35 : decode cX1_countParts 35 = .ok (.invokevirtual 34, 3) := by decide +kernel
theorem dX1_countParts_38 : decode cX1_countParts 38 = .ok (.iconst (-1), 1) := by decide +kernel
theorem dX1_countParts_39 : decode cX1_countParts 39 = .ok (.ixor, 1) := by decide +kernel
theorem dX1_countParts_40 : decode cX1_countParts 40 = .ok (.iand, 1) := by decide +kernel
theorem dX1_countParts_41 : decode cX1_countParts 41 = .ok (.istore_n 2, 1) := by decide +kernel
theorem dX1_countParts_42 : decode cX1_countParts 42 = .ok (.iinc 3 1, 3) := by decide +kernel
theorem dX1_countParts_45 : decode cX1_countParts 45 = .ok (.iinc 4 1, 3) := by decide +kernel
theorem dX1_countParts_48 : decode cX1_countParts 48 = .ok (.goto (-38), 3) := by decide +kernel
theorem dX1_countParts_51 : decode cX1_countParts 51 = .ok (.iload_n 3, 1) := by decide +kernel
theorem dX1_countParts_52 : decode cX1_countParts 52 = .ok (.ireturn, 1) := by decide +kernel
theorem dX1_connectedWith_0 : decode cX1_connectedWith 0 = .ok (.iload_n 1, 1) := by decide +kernel
theorem dX1_connectedWith_1 : decode cX1_connectedWith 1 = .ok (.istore_n 3, 1) := by decide +kernel
theorem dX1_connectedWith_2 : decode cX1_connectedWith 2 = .ok (.iconst 0, 1) := by decide +kernel
theorem dX1_connectedWith_3 : decode cX1_connectedWith 3 = .ok (.istore 4, 2) := by decide +kernel
theorem dX1_connectedWith_5 : decode cX1_connectedWith 5 = .ok (.iload 4, 2) := by decide +kernel
theorem dX1_connectedWith_7 : decode cX1_connectedWith 7 = .ok (.aload_n 0, 1) := by decide +kernel
theorem dX1_connectedWith_8 : decode cX1_connectedWith 8 = .ok (.getfield 15, 3) := by decide +kernel
theorem dX1_connectedWith_11 : decode cX1_connectedWith 11 = .ok (.if_icmp .ge 89, 3) := by decide +kernel
theorem dX1_connectedWith_14 : decode cX1_connectedWith 14 = .ok (.iload_n 3, 1) := by decide +kernel
theorem dX1_connectedWith_15 : decode cX1_connectedWith 15 = .ok (.istore 5, 2) := by decide +kernel
theorem dX1_connectedWith_17 : decode cX1_connectedWith 17 = .ok (.iconst 0, 1) := by decide +kernel
theorem dX1_connectedWith_18 : decode cX1_connectedWith 18 = .ok (.istore 6, 2) := by decide +kernel
theorem dX1_connectedWith_20 : decode cX1_connectedWith 20 = .ok (.iload 6, 2) := by decide +kernel
theorem dX1_connectedWith_22 : decode cX1_connectedWith 22 = .ok (.aload_n 0, 1) := by decide +kernel
theorem dX1_connectedWith_23 : decode cX1_connectedWith 23 = .ok (.getfield 19, 3) := by decide +kernel
theorem dX1_connectedWith_26 : decode cX1_connectedWith 26 = .ok (.if_icmp .ge 59, 3) := by decide +kernel
theorem dX1_connectedWith_29 : decode cX1_connectedWith 29 = .ok (.aload_n 2, 1) := by decide +kernel
theorem dX1_connectedWith_30 : decode cX1_connectedWith 30 = .ok (.getfield 45, 3) := by decide +kernel
theorem dX1_connectedWith_33 : decode cX1_connectedWith 33 = .ok (.iload 6, 2) := by decide +kernel
theorem dX1_connectedWith_35 : decode cX1_connectedWith 35 = .ok (.ishr, 1) := by decide +kernel
theorem dX1_connectedWith_36 : decode cX1_connectedWith 36 = .ok (.iconst 1, 1) := by decide +kernel
theorem dX1_connectedWith_37 : decode cX1_connectedWith 37 = .ok (.iand, 1) := by decide +kernel
theorem dX1_connectedWith_38 : decode cX1_connectedWith 38 = .ok (.ifCond .eq 7, 3) := by decide +kernel
theorem dX1_connectedWith_41 : decode cX1_connectedWith 41 = .ok (.iconst 1, 1) := by decide +kernel
theorem dX1_connectedWith_42 : decode cX1_connectedWith 42 = .ok (.goto 4, 3) := by decide +kernel
theorem dX1_connectedWith_45 : decode cX1_connectedWith 45 = .ok (.iconst 0, 1) := by decide +kernel
theorem dX1_connectedWith_46 : decode cX1_connectedWith 46 = .ok (.istore 7, 2) := by decide +kernel
theorem dX1_connectedWith_48 : decode cX1_connectedWith 48 = .ok (.iload_n 3, 1) := by decide +kernel
theorem dX1_connectedWith_49 : decode cX1_connectedWith 49 = .ok (.iload 7, 2) := by decide +kernel
theorem dX1_connectedWith_51 : decode cX1_connectedWith 51 = .ok (.ifCond .eq 25, 3) := by decide +kernel
theorem dX1_connectedWith_54 : decode cX1_connectedWith 54 = .ok (.aload_n 0, 1) := by decide +kernel
theorem dX1_connectedWith_55 : decode cX1_connectedWith 55 = .ok (.getfield 9, 3) := by decide +kernel
theorem dX1_connectedWith_58 : decode cX1_connectedWith 58 = .ok (.iload 6, 2) := by decide +kernel
theorem dX1_connectedWith_60 : decode cX1_connectedWith 60 = .ok (.iaload, 1) := by decide +kernel
theorem dX1_connectedWith_61 : decode cX1_connectedWith 61 = .ok (.iload_n 3, 1) := by decide +kernel
theorem dX1_connectedWith_62 : decode cX1_connectedWith 62 = .ok (.iand, 1) := by decide +kernel
theorem dX1_connectedWith_63 : decode cX1_connectedWith 63 = .ok (.ifCond .eq 13, 3) := by decide +kernel
theorem dX1_connectedWith_66 : decode cX1_connectedWith 66 = .ok (.aload_n 0, 1) := by decide +kernel
theorem dX1_connectedWith_67 : decode cX1_connectedWith 67 = .ok (.getfield 9, 3) := by decide +kernel
theorem dX1_connectedWith_70 : decode cX1_connectedWith 70 = .ok (.iload 6, 2) := by decide +kernel
theorem dX1_connectedWith_72 : decode cX1_connectedWith 72 = .ok (.iaload, 1) := by decide +kernel
theorem dX1_connectedWith_73 : decode cX1_connectedWith 73 = .ok (.goto 4, 3) := by decide +kernel
theorem dX1_connectedWith_76 : decode cX1_connectedWith 76 = .ok (.iconst 0, 1) := by decide +kernel
theorem dX1_connectedWith_77 : decode cX1_connectedWith 77 = .ok (.ior, 1) := by decide +kernel
theorem dX1_connectedWith_78 : decode cX1_connectedWith 78 = .ok (.istore_n 3, 1) := by decide +kernel
theorem dX1_connectedWith_79 : decode cX1_connectedWith 79 = .ok (.iinc 6 1, 3) := by decide +kernel
theorem dX1_connectedWith_82 : decode cX1_connectedWith 82 = .ok (.goto (-62), 3) := by decide +kernel
theorem dX1_connectedWith_85 : decode cX1_connectedWith 85 = .ok (.iload_n 3, 1) := by decide +kernel
theorem dX1_connectedWith_86 : decode cX1_connectedWith 86 = .ok (.iload 5, 2) := by decide +kernel
theorem dX1_connectedWith_88 : decode cX1_connectedWith 88 = .ok (.if_icmp .ne 6, 3) := by decide +kernel
theorem dX1_connectedWith_91 : decode cX1_connectedWith 91 = .ok (.goto 9, 3) := by decide +kernel
theorem dX1_connectedWith_94 : decode cX1_connectedWith 94 = .ok (.iinc 4 1, 3) := by decide +kernel
theorem dX1_connectedWith_97 : decode cX1_connectedWith 97 = .ok (.goto (-92), 3) := by decide +kernel
theorem dX1_connectedWith_100 : decode cX1_connectedWith 100 = .ok (.iload_n 3, 1) := by decide +kernel
theorem dX1_connectedWith_101 : decode cX1_connectedWith 101 = .ok (.ireturn, 1) := by decide +kernel
theorem dX1_withNeighbours_0 : decode cX1_withNeighbours 0 = .ok (.iload_n 1, 1) := by decide +kernel
theorem dX1_withNeighbours_1 : decode cX1_withNeighbours 1 = .ok (.istore_n 2, 1) := by decide +kernel
theorem dX1_withNeighbours_2 : decode cX1_withNeighbours 2 = .ok (.iconst 0, 1) := by decide +kernel
theorem dX1_withNeighbours_3 : decode cX1_withNeighbours 3 = .ok (.istore_n 3, 1) := by decide +kernel
theorem dX1_withNeighbours_4 : decode cX1_withNeighbours 4 = .ok (.iload_n 3, 1) := by decide +kernel
theorem dX1_withNeighbours_5 : decode cX1_withNeighbours 5 = .ok (.aload_n 0, 1) := by decide +kernel
theorem dX1_withNeighbours_6 : decode cX1_withNeighbours 6 = .ok (.getfield 19, 3) := by decide +kernel
theorem dX1_withNeighbours_9 : decode cX1_withNeighbours 9 = .ok (.if_icmp .ge 33, 3) := by decide +kernel
theorem dX1_withNeighbours_12 : decode cX1_withNeighbours 12 = .ok (.iload_n 2, 1) := by decide +kernel
theorem dX1_withNeighbours_13 : decode cX1_withNeighbours 13 = .ok (.aload_n 0, 1) := by decide +kernel
theorem dX1_withNeighbours_14 : decode cX1_withNeighbours 14 = .ok (.getfield 9, 3) := by decide +kernel
theorem dX1_withNeighbours_17 : decode cX1_withNeighbours 17 = .ok (.iload_n 3, 1) := by decide +kernel
theorem dX1_withNeighbours_18 : decode cX1_withNeighbours 18 = .ok (.iaload, 1) := by decide +kernel
theorem dX1_withNeighbours_19 : decode cX1_withNeighbours 19 = .ok (.iload_n 1, 1) := by decide +kernel
theorem dX1_withNeighbours_20 : decode cX1_withNeighbours 20 = .ok (.iand, 1) := by decide +kernel
theorem dX1_withNeighbours_21 : decode cX1_withNeighbours 21 = .ok (.ifCond .eq 12, 3) := by decide +kernel
theorem dX1_withNeighbours_24 : decode cX1_withNeighbours 24 = .ok (.aload_n 0, 1) := by decide +kernel
theorem dX1_withNeighbours_25 : decode cX1_withNeighbours 25 = .ok (.getfield 9, 3) := by decide +kernel
theorem dX1_withNeighbours_28 : decode cX1_withNeighbours 28 = .ok (.iload_n 3, 1) := by decide +kernel
theorem dX1_withNeighbours_29 : decode cX1_withNeighbours 29 = .ok (.iaload, 1) := by decide +kernel
theorem dX1_withNeighbours_30 : decode cX1_withNeighbours 30 = .ok (.goto 4, 3) := by decide +kernel
theorem dX1_withNeighbours_33 : decode cX1_withNeighbours 33 = .ok (.iconst 0, 1) := by decide +kernel
theorem dX1_withNeighbours_34 : decode cX1_withNeighbours 34 = .ok (.ior, 1) := by decide +kernel
theorem dX1_withNeighbours_35 : decode cX1_withNeighbours 35 = .ok (.istore_n 2, 1) := by decide +kernel
theorem dX1_withNeighbours_36 : decode cX1_withNeighbours 36 = .ok (.iinc 3 1, 3) := by decide +kernel
theorem dX1_withNeighbours_39 : decode cX1_withNeighbours 39 = .ok (.goto (-35), 3) := by decide +kernel
theorem dX1_withNeighbours_42 : decode cX1_withNeighbours 42 = .ok (.iload_n 2, 1) := by decide +kernel
theorem dX1_withNeighbours_43 : decode cX1_withNeighbours 43 = .ok (.ireturn, 1) := by decide +kernel
theorem dX2_init_0 : decode cX2_init 0 = .ok (.aload_n 0, 1) := by decide +kernel
theorem dX2_init_1 : decode cX2_init 1 = .ok (.invokespecial 3, 3) := by decide +kernel
theorem dX2_init_4 : decode cX2_init 4 = .ok (.aload_n 0, 1) := by decide +kernel
theorem dX2_init_5 : decode cX2_init 5 = .ok (.bipush 10, 2) := by decide +kernel
theorem dX2_init_7 : decode cX2_init 7 = .ok (.newarray .int, 2) := by decide +kernel
theorem dX2_init_9 : decode cX2_init 9 = .ok (.putfield 9, 3) := by decide +kernel
theorem dX2_init_12 : decode cX2_init 12 = .ok (.return_, 1) := by decide +kernel
theorem dX2_given_0 : decode cX2_given 0 = .ok (.aload_n 0, 1) := by decide +kernel
theorem dX2_given_1 : decode cX2_given 1 = .ok (.getfield 15, 3) := by decide +kernel
theorem dX2_given_4 : decode cX2_given 4 = .ok (.ireturn, 1) := by decide +kernel
theorem dX2_give_0 : decode cX2_give 0 = .ok (.aload_n 0, 1) := by decide +kernel
theorem dX2_give_1 : decode cX2_give 1 = .ok (.getfield 9, 3) := by decide +kernel
theorem dX2_give_4 : decode cX2_give 4 = .ok (.aload_n 0, 1) := by decide +kernel
theorem dX2_give_5 : decode cX2_give 5 = .ok (.getfield 15, 3) := by decide +kernel
theorem dX2_give_8 : decode cX2_give 8 = .ok (.iload_n 1, 1) := by decide +kernel
theorem dX2_give_9 : decode cX2_give 9 = .ok (.iastore, 1) := by decide +kernel
theorem dX2_give_10 : decode cX2_give 10 = .ok (.aload_n 0, 1) := by decide +kernel
theorem dX2_give_11 : decode cX2_give 11 = .ok (.dup, 1) := by decide +kernel
theorem dX2_give_12 : decode cX2_give 12 = .ok (.getfield 15, 3) := by decide +kernel
theorem dX2_give_15 : decode cX2_give 15 = .ok (.dup_x1, 1) := by decide +kernel
theorem dX2_give_16 : decode cX2_give 16 = .ok (.iconst 1, 1) := by decide +kernel
theorem dX2_give_17 : decode cX2_give 17 = .ok (.iadd, 1) := by decide +kernel
theorem dX2_give_18 : decode cX2_give 18 = .ok (.putfield 15, 3) := by decide +kernel
theorem dX2_give_21 : decode cX2_give 21 = .ok (.ireturn, 1) := by decide +kernel
theorem dX2_isHeld_0 : decode cX2_isHeld 0 = .ok (.aload_n 0, 1) := by decide +kernel
theorem dX2_isHeld_1 : decode cX2_isHeld 1 = .ok (.getfield 9, 3) := by decide +kernel
theorem dX2_isHeld_4 : decode cX2_isHeld 4 = .ok (.iload_n 1, 1) := by decide +kernel
theorem dX2_isHeld_5 : decode cX2_isHeld 5 = .ok (.iaload, 1) := by decide +kernel
theorem dX2_isHeld_6 : decode cX2_isHeld 6 = .ok (.ifCond .eq 7, 3) := by decide +kernel
theorem dX2_isHeld_9 : decode cX2_isHeld 9 = .ok (.iconst 1, 1) := by decide +kernel
theorem dX2_isHeld_10 : decode cX2_isHeld 10 = .ok (.goto 4, 3) := by decide +kernel
theorem dX2_isHeld_13 : decode cX2_isHeld 13 = .ok (.iconst 0, 1) := by decide +kernel
theorem dX2_isHeld_14 : decode cX2_isHeld 14 = .ok (.ireturn, 1) := by decide +kernel
theorem dX2_release_0 : decode cX2_release 0 = .ok (.aload_n 0, 1) := by decide +kernel
theorem dX2_release_1 : decode cX2_release 1 = .ok (.getfield 9, 3) := by decide +kernel
theorem dX2_release_4 : decode cX2_release 4 = .ok (.iload_n 1, 1) := by decide +kernel
theorem dX2_release_5 : decode cX2_release 5 = .ok (.iconst 0, 1) := by decide +kernel
theorem dX2_release_6 : decode cX2_release 6 = .ok (.iastore, 1) := by decide +kernel
theorem dX2_release_7 : decode cX2_release 7 = .ok (.return_, 1) := by decide +kernel
set_option maxRecDepth 20000 in
theorem ggX2_countHeld_X2_isHeld : GoodIn wsX2_countHeld wsX2_isHeld := goodIn_r _ [6, 7, 8, 9] (by decide +kernel) (by decide +kernel)
set_option maxRecDepth 20000 in
theorem gX2_countHeld_X2_isHeld : GoodIn wsX2_countHeld (wsV RX2 19 RX2 yX2_isHeld wsX2_isHeld) := goodIn_app (goodIn_of _ (by decide +kernel)) ggX2_countHeld_X2_isHeld
theorem dX2_countHeld_0 : decode cX2_countHeld 0 = .ok (.iconst 0, 1) := by decide +kernel
theorem dX2_countHeld_1 : decode cX2_countHeld 1 = .ok (.istore_n 1, 1) := by decide +kernel
theorem dX2_countHeld_2 : decode cX2_countHeld 2 = .ok (.iconst 0, 1) := by decide +kernel
theorem dX2_countHeld_3 : decode cX2_countHeld 3 = .ok (.istore_n 2, 1) := by decide +kernel
theorem dX2_countHeld_4 : decode cX2_countHeld 4 = .ok (.iload_n 2, 1) := by decide +kernel
theorem dX2_countHeld_5 : decode cX2_countHeld 5 = .ok (.aload_n 0, 1) := by decide +kernel
theorem dX2_countHeld_6 : decode cX2_countHeld 6 = .ok (.getfield 15, 3) := by decide +kernel
theorem dX2_countHeld_9 : decode cX2_countHeld 9 = .ok (.if_icmp .ge 25, 3) := by decide +kernel
theorem dX2_countHeld_12 : decode cX2_countHeld 12 = .ok (.iload_n 1, 1) := by decide +kernel
theorem dX2_countHeld_13 : decode cX2_countHeld 13 = .ok (.aload_n 0, 1) := by decide +kernel
theorem dX2_countHeld_14 : decode cX2_countHeld 14 = .ok (.iload_n 2, 1) := by decide +kernel
theorem dX2_countHeld_15 : decode cX2_countHeld 15 = .ok (.invokevirtual 19, 3) := by decide +kernel
theorem dX2_countHeld_18 : decode cX2_countHeld 18 = .ok (.ifCond .eq 7, 3) := by decide +kernel
theorem dX2_countHeld_21 : decode cX2_countHeld 21 = .ok (.iconst 1, 1) := by decide +kernel
theorem dX2_countHeld_22 : decode cX2_countHeld 22 = .ok (.goto 4, 3) := by decide +kernel
theorem dX2_countHeld_25 : decode cX2_countHeld 25 = .ok (.iconst 0, 1) := by decide +kernel
theorem dX2_countHeld_26 : decode cX2_countHeld 26 = .ok (.iadd, 1) := by decide +kernel
theorem dX2_countHeld_27 : decode cX2_countHeld 27 = .ok (.istore_n 1, 1) := by decide +kernel
theorem dX2_countHeld_28 : decode cX2_countHeld 28 = .ok (.iinc 2 1, 3) := by decide +kernel
theorem dX2_countHeld_31 : decode cX2_countHeld 31 = .ok (.goto (-27), 3) := by decide +kernel
theorem dX2_countHeld_34 : decode cX2_countHeld 34 = .ok (.iload_n 1, 1) := by decide +kernel
theorem dX2_countHeld_35 : decode cX2_countHeld 35 = .ok (.ireturn, 1) := by decide +kernel
theorem dX2_heldNodes_0 : decode cX2_heldNodes 0 = .ok (.iconst 0, 1) := by decide +kernel
theorem dX2_heldNodes_1 : decode cX2_heldNodes 1 = .ok (.istore_n 1, 1) := by decide +kernel
theorem dX2_heldNodes_2 : decode cX2_heldNodes 2 = .ok (.iconst 0, 1) := by decide +kernel
theorem dX2_heldNodes_3 : decode cX2_heldNodes 3 = .ok (.istore_n 2, 1) := by decide +kernel
theorem dX2_heldNodes_4 : decode cX2_heldNodes 4 = .ok (.iload_n 2, 1) := by decide +kernel
theorem dX2_heldNodes_5 : decode cX2_heldNodes 5 = .ok (.aload_n 0, 1) := by decide +kernel
theorem dX2_heldNodes_6 : decode cX2_heldNodes 6 = .ok (.getfield 15, 3) := by decide +kernel
theorem dX2_heldNodes_9 : decode cX2_heldNodes 9 = .ok (.if_icmp .ge 18, 3) := by decide +kernel
theorem dX2_heldNodes_12 : decode cX2_heldNodes 12 = .ok (.iload_n 1, 1) := by decide +kernel
theorem dX2_heldNodes_13 : decode cX2_heldNodes 13 = .ok (.aload_n 0, 1) := by decide +kernel
theorem dX2_heldNodes_14 : decode cX2_heldNodes 14 = .ok (.getfield 9, 3) := by decide +kernel
theorem dX2_heldNodes_17 : decode cX2_heldNodes 17 = .ok (.iload_n 2, 1) := by decide +kernel
theorem dX2_heldNodes_18 : decode cX2_heldNodes 18 = .ok (.iaload, 1) := by decide +kernel
theorem dX2_heldNodes_19 : decode cX2_heldNodes 19 = .ok (.ior, 1) := by decide +kernel
theorem dX2_heldNodes_20 : decode cX2_heldNodes 20 = .ok (.istore_n 1, 1) := by decide +kernel
theorem dX2_heldNodes_21 : decode cX2_heldNodes 21 = .ok (.iinc 2 1, 3) := by decide +kernel
theorem dX2_heldNodes_24 : decode cX2_heldNodes 24 = .ok (.goto (-20), 3) := by decide +kernel
theorem dX2_heldNodes_27 : decode cX2_heldNodes 27 = .ok (.iload_n 1, 1) := by decide +kernel
theorem dX2_heldNodes_28 : decode cX2_heldNodes 28 = .ok (.ireturn, 1) := by decide +kernel
theorem dX3_init_0 : decode cX3_init 0 = .ok (.aload_n 0, 1) := by decide +kernel
theorem dX3_init_1 : decode cX3_init 1 = .ok (.invokespecial 3, 3) := by decide +kernel
theorem dX3_init_4 : decode cX3_init 4 = .ok (.return_, 1) := by decide +kernel
theorem dX3_copyFrom_0 : decode cX3_copyFrom 0 = .ok (.aload_n 0, 1) := by decide +kernel
theorem dX3_copyFrom_1 : decode cX3_copyFrom 1 = .ok (.aload_n 1, 1) := by decide +kernel
theorem dX3_copyFrom_2 : decode cX3_copyFrom 2 = .ok (.getfield 9, 3) := by decide +kernel
theorem dX3_copyFrom_5 : decode cX3_copyFrom 5 = .ok (.putfield 9, 3) := by decide +kernel
theorem dX3_copyFrom_8 : decode cX3_copyFrom 8 = .ok (.aload_n 0, 1) := by decide +kernel
theorem dX3_copyFrom_9 : decode cX3_copyFrom 9 = .ok (.aload_n 1, 1) := by decide +kernel
theorem dX3_copyFrom_10 : decode cX3_copyFrom 10 = .ok (.getfield 15, 3) := by decide +kernel
theorem dX3_copyFrom_13 : decode cX3_copyFrom 13 = .ok (.putfield 15, 3) := by decide +kernel
theorem dX3_copyFrom_16 : decode cX3_copyFrom 16 = .ok (.aload_n 0, 1) := by decide +kernel
theorem dX3_copyFrom_17 : decode cX3_copyFrom 17 = .ok (.aload_n 1, 1) := by decide +kernel
theorem dX3_copyFrom_18 : decode cX3_copyFrom 18 = .ok (.getfield 18, 3) := by decide +kernel
theorem dX3_copyFrom_21 : decode cX3_copyFrom 21 = .ok (.putfield 18, 3) := by decide +kernel
theorem dX3_copyFrom_24 : decode cX3_copyFrom 24 = .ok (.return_, 1) := by decide +kernel
theorem dX3_flip_0 : decode cX3_flip 0 = .ok (.iconst 1, 1) := by decide +kernel
theorem dX3_flip_1 : decode cX3_flip 1 = .ok (.iload_n 2, 1) := by decide +kernel
theorem dX3_flip_2 : decode cX3_flip 2 = .ok (.ishl, 1) := by decide +kernel
theorem dX3_flip_3 : decode cX3_flip 3 = .ok (.istore_n 3, 1) := by decide +kernel
theorem dX3_flip_4 : decode cX3_flip 4 = .ok (.iload_n 1, 1) := by decide +kernel
theorem dX3_flip_5 : decode cX3_flip 5 = .ok (.tableswitch 57 0 3 #[31, 31, 44, 44], 31) := by decide +kernel
theorem dX3_flip_36 : decode cX3_flip 36 = .ok (.aload_n 0, 1) := by decide +kernel
theorem dX3_flip_37 : decode cX3_flip 37 = .ok (.dup, 1) := by decide +kernel
theorem dX3_flip_38 : decode cX3_flip 38 = .ok (.getfield 9, 3) := by decide +kernel
theorem dX3_flip_41 : decode cX3_flip 41 = .ok (.iload_n 3, 1) := by decide +kernel
theorem dX3_flip_42 : decode cX3_flip 42 = .ok (.ixor, 1) := by decide +kernel
theorem dX3_flip_43 : decode cX3_flip 43 = .ok (.putfield 9, 3) := by decide +kernel
theorem dX3_flip_46 : decode cX3_flip 46 = .ok (.goto 26, 3) := by decide +kernel
theorem dX3_flip_49 : decode cX3_flip 49 = .ok (.aload_n 0, 1) := by decide +kernel
theorem dX3_flip_50 : decode cX3_flip 50 = .ok (.dup, 1) := by decide +kernel
theorem dX3_flip_51 : decode cX3_flip 51 = .ok (.getfield 15, 3) := by decide +kernel
theorem dX3_flip_54 : decode cX3_flip 54 = .ok (.iload_n 3, 1) := by decide +kernel
theorem dX3_flip_55 : decode cX3_flip 55 = .ok (.ixor, 1) := by decide +kernel
theorem dX3_flip_56 : decode cX3_flip 56 = .ok (.putfield 15, 3) := by decide +kernel
theorem dX3_flip_59 : decode cX3_flip 59 = .ok (.goto 13, 3) := by decide +kernel
theorem dX3_flip_62 : decode cX3_flip 62 = .ok (.aload_n 0, 1) := by decide +kernel
theorem dX3_flip_63 : decode cX3_flip 63 = .ok (.dup, 1) := by decide +kernel
theorem dX3_flip_64 : decode cX3_flip 64 = .ok (.getfield 18, 3) := by decide +kernel
theorem dX3_flip_67 : decode cX3_flip 67 = .ok (.iload_n 3, 1) := by decide +kernel
theorem dX3_flip_68 : decode cX3_flip 68 = .ok (.ixor, 1) := by decide +kernel
theorem dX3_flip_69 : decode cX3_flip 69 = .ok (.putfield 18, 3) := by decide +kernel
theorem dX3_flip_72 : decode cX3_flip 72 = .ok (.return_, 1) := by decide +kernel
theorem dX3_isOn_0 : decode cX3_isOn 0 = .ok (.iload_n 1, 1) := by decide +kernel
theorem dX3_isOn_1 : decode cX3_isOn 1 = .ok (.tableswitch 65 0 3 #[31, 31, 48, 48], 31) := by decide +kernel
theorem dX3_isOn_32 : decode cX3_isOn 32 = .ok (.aload_n 0, 1) := by decide +kernel
theorem dX3_isOn_33 : decode cX3_isOn 33 = .ok (.getfield 9, 3) := by decide +kernel
theorem dX3_isOn_36 : decode cX3_isOn 36 = .ok (.iload_n 2, 1) := by decide +kernel
theorem dX3_isOn_37 : decode cX3_isOn 37 = .ok (.ishr, 1) := by decide +kernel
theorem dX3_isOn_38 : decode cX3_isOn 38 = .ok (.iconst 1, 1) := by decide +kernel
theorem dX3_isOn_39 : decode cX3_isOn 39 = .ok (.iand, 1) := by decide +kernel
theorem dX3_isOn_40 : decode cX3_isOn 40 = .ok (.ifCond .eq 7, 3) := by decide +kernel
theorem dX3_isOn_43 : decode cX3_isOn 43 = .ok (.iconst 1, 1) := by decide +kernel
theorem dX3_isOn_44 : decode cX3_isOn 44 = .ok (.goto 4, 3) := by decide +kernel
theorem dX3_isOn_47 : decode cX3_isOn 47 = .ok (.iconst 0, 1) := by decide +kernel
theorem dX3_isOn_48 : decode cX3_isOn 48 = .ok (.ireturn, 1) := by decide +kernel
theorem dX3_isOn_49 : decode cX3_isOn 49 = .ok (.aload_n 0, 1) := by decide +kernel
theorem dX3_isOn_50 : decode cX3_isOn 50 = .ok (.getfield 15, 3) := by decide +kernel
theorem dX3_isOn_53 : decode cX3_isOn 53 = .ok (.iload_n 2, 1) := by decide +kernel
theorem dX3_isOn_54 : decode cX3_isOn 54 = .ok (.ishr, 1) := by decide +kernel
theorem dX3_isOn_55 : decode cX3_isOn 55 = .ok (.iconst 1, 1) := by decide +kernel
theorem dX3_isOn_56 : decode cX3_isOn 56 = .ok (.iand, 1) := by decide +kernel
theorem dX3_isOn_57 : decode cX3_isOn 57 = .ok (.ifCond .eq 7, 3) := by decide +kernel
theorem dX3_isOn_60 : decode cX3_isOn 60 = .ok (.iconst 1, 1) := by decide +kernel
theorem dX3_isOn_61 : decode cX3_isOn 61 = .ok (.goto 4, 3) := by decide +kernel
theorem dX3_isOn_64 : decode cX3_isOn 64 = .ok (.iconst 0, 1) := by decide +kernel
theorem dX3_isOn_65 : decode cX3_isOn 65 = .ok (.ireturn, 1) := by decide +kernel
theorem dX3_isOn_66 : decode cX3_isOn 66 = .ok (.aload_n 0, 1) := by decide +kernel
theorem dX3_isOn_67 : decode cX3_isOn 67 = .ok (.getfield 18, 3) := by decide +kernel
theorem dX3_isOn_70 : decode cX3_isOn 70 = .ok (.iload_n 2, 1) := by decide +kernel
theorem dX3_isOn_71 : decode cX3_isOn 71 = .ok (.ishr, 1) := by decide +kernel
theorem dX3_isOn_72 : decode cX3_isOn 72 = .ok (.iconst 1, 1) := by decide +kernel
theorem dX3_isOn_73 : decode cX3_isOn 73 = .ok (.iand, 1) := by decide +kernel
theorem dX3_isOn_74 : decode cX3_isOn 74 = .ok (.ifCond .eq 7, 3) := by decide +kernel
theorem dX3_isOn_77 : decode cX3_isOn 77 = .ok (.iconst 1, 1) := by decide +kernel
theorem dX3_isOn_78 : decode cX3_isOn 78 = .ok (.goto 4, 3) := by decide +kernel
theorem dX3_isOn_81 : decode cX3_isOn 81 = .ok (.iconst 0, 1) := by decide +kernel
theorem dX3_isOn_82 : decode cX3_isOn 82 = .ok (.ireturn, 1) := by decide +kernel
set_option maxRecDepth 20000 in
theorem ggX4_init_X1_init : GoodIn wsX4_init wsX1_init := goodIn_r _ [24, 25, 2, 3, 26, 27, 40, 41, 42, 43, 44, 45] (by decide +kernel) (by decide +kernel)
set_option maxRecDepth 20000 in
theorem gX4_init_X1_init_n9 : GoodIn wsX4_init (wsX1_init) := ggX4_init_X1_init
set_option maxRecDepth 20000 in
theorem ggX4_init_X3_init : GoodIn wsX4_init wsX3_init := goodIn_r _ [29, 30, 2, 3] (by decide +kernel) (by decide +kernel)
set_option maxRecDepth 20000 in
theorem gX4_init_X3_init_n18 : GoodIn wsX4_init (wsX3_init) := ggX4_init_X3_init
set_option maxRecDepth 20000 in
theorem ggX4_init_X0_init : GoodIn wsX4_init wsX0_init := goodIn_r _ [33, 34, 2, 3, 26, 35, 56, 57] (by decide +kernel) (by decide +kernel)
set_option maxRecDepth 20000 in
theorem gX4_init_X0_init : GoodIn wsX4_init (wsX0_init) := ggX4_init_X0_init
set_option maxRecDepth 20000 in
theorem ggX4_init_X2_init : GoodIn wsX4_init wsX2_init := goodIn_r _ [37, 38, 2, 3, 26, 39, 58, 59] (by decide +kernel) (by decide +kernel)
set_option maxRecDepth 20000 in
theorem gX4_init_X2_init_n37 : GoodIn wsX4_init (wsX2_init) := ggX4_init_X2_init
