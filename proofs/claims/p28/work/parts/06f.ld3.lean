set_option maxRecDepth 20000 in
theorem ggL_isTold_L_lay : GoodIn wsL_isTold wsL_lay := goodIn_r _ [4] (by decide +kernel) (by decide +kernel)
set_option maxRecDepth 20000 in
theorem gL_isTold_L_lay : GoodIn wsL_isTold (va_wsS RL 65 yL_lay wsL_lay) := goodIn_app (goodIn_of _ (by decide +kernel)) ggL_isTold_L_lay
set_option maxRecDepth 20000 in
theorem ggL_isTold_L_with : GoodIn wsL_isTold wsL_with := goodIn_r _ [7] (by decide +kernel) (by decide +kernel)
set_option maxRecDepth 20000 in
theorem gL_isTold_L_with : GoodIn wsL_isTold (va_wsS RL 69 yL_with wsL_with) := goodIn_app (goodIn_of _ (by decide +kernel)) ggL_isTold_L_with
set_option maxRecDepth 20000 in
theorem ggL_isTold_L_part : GoodIn wsL_isTold wsL_part := goodIn_ca (goodIn_r _ [10, 11, 12, 13, 14, 15, 16, 17, 18, 19, 20, 21, 22, 23, 24, 25, 26, 27, 28, 29, 30, 31, 32, 33, 34, 35, 36, 274, 275, 276, 277, 278, 279, 280, 281, 282, 283, 284, 285, 286, 287, 288, 289] (by decide +kernel) (by decide +kernel)) (goodIn_sub (fun _ h => List.mem_cons_of_mem _ (List.mem_append_left _ (List.mem_append_left _ (List.mem_append_right _ h)))) (by decide +kernel))
set_option maxRecDepth 20000 in
theorem gL_isTold_L_part : GoodIn wsL_isTold (va_wsS RL 121 yL_part wsL_part) := goodIn_app (goodIn_of _ (by decide +kernel)) ggL_isTold_L_part
set_option maxRecDepth 20000 in
theorem ggL_isTold_X4_live : GoodIn wsL_isTold wsX4_live := goodIn_r _ [40, 17, 18, 41, 42, 43, 28, 44, 45, 32, 33, 34, 30, 35, 36, 274, 275, 276, 277, 278, 279, 280, 287, 288, 289, 281, 282, 283, 284, 285, 286] (by decide +kernel) (by decide +kernel)
set_option maxRecDepth 20000 in
theorem gL_isTold_X4_live : GoodIn wsL_isTold (wsV RL 123 RX4 yX4_live wsX4_live) := goodIn_app (goodIn_of _ (by decide +kernel)) ggL_isTold_X4_live
set_option maxRecDepth 20000 in
theorem ggL_isTold_X4_earthed : GoodIn wsL_isTold wsX4_earthed := goodIn_r _ [49, 17, 18, 50, 51, 52, 28, 53, 45, 32, 33, 34, 30, 35, 36, 274, 275, 276, 277, 278, 279, 280, 287, 288, 289, 281, 282, 283, 284, 285, 286] (by decide +kernel) (by decide +kernel)
set_option maxRecDepth 20000 in
theorem gL_isTold_X4_earthed : GoodIn wsL_isTold (wsV RL 126 RX4 yX4_earthed wsX4_earthed) := goodIn_app (goodIn_of _ (by decide +kernel)) ggL_isTold_X4_earthed
set_option maxRecDepth 20000 in
theorem ggL_isTold_X4_loaded : GoodIn wsL_isTold wsX4_loaded := goodIn_r _ [57, 17, 18, 58, 59, 60, 28, 61, 62, 45, 32, 33, 34, 30, 35, 36, 274, 275, 276, 277, 278, 279, 280, 287, 288, 289, 281, 282, 283, 284, 285, 286] (by decide +kernel) (by decide +kernel)
set_option maxRecDepth 20000 in
theorem gL_isTold_X4_loaded : GoodIn wsL_isTold (wsV RL 129 RX4 yX4_loaded wsX4_loaded) := goodIn_app (goodIn_of _ (by decide +kernel)) ggL_isTold_X4_loaded
set_option maxRecDepth 20000 in
theorem ggL_isTold_X4_parts : GoodIn wsL_isTold wsX4_parts := goodIn_r _ [66, 17, 18, 67, 68, 69, 28, 70, 30, 71, 72, 73, 74, 45, 32, 33, 34, 35, 36, 274, 275, 276, 277, 278, 279, 280, 281, 282, 283, 284, 285, 286, 287, 288, 289] (by decide +kernel) (by decide +kernel)
set_option maxRecDepth 20000 in
theorem gL_isTold_X4_parts : GoodIn wsL_isTold (wsV RL 132 RX4 yX4_parts wsX4_parts) := goodIn_app (goodIn_of _ (by decide +kernel)) ggL_isTold_X4_parts
set_option maxRecDepth 20000 in
theorem ggL_isTold_X4_held : GoodIn wsL_isTold wsX4_held := goodIn_r _ [78, 79, 80, 81, 82, 83, 84, 85, 86, 274, 275, 276, 277, 278, 279, 280, 290, 291] (by decide +kernel) (by decide +kernel)
set_option maxRecDepth 20000 in
theorem gL_isTold_X4_held : GoodIn wsL_isTold (wsV RL 117 RX4 yX4_held wsX4_held) := goodIn_app (goodIn_of _ (by decide +kernel)) ggL_isTold_X4_held
set_option maxRecDepth 20000 in
theorem ggL_isTold_L_held : GoodIn wsL_isTold wsL_held := goodIn_r _ [89] (by decide +kernel) (by decide +kernel)
set_option maxRecDepth 20000 in
theorem gL_isTold_L_held : GoodIn wsL_isTold (va_wsS RL 59 yL_held wsL_held) := goodIn_app (goodIn_of _ (by decide +kernel)) ggL_isTold_L_held
set_option maxRecDepth 20000 in
theorem ggL_isTold_X4_nodes : GoodIn wsL_isTold wsX4_nodes := goodIn_r _ [93, 17, 94, 95, 96, 28, 97, 30, 274, 275, 276, 277, 278, 279, 280, 281, 282, 283, 284, 285, 286] (by decide +kernel) (by decide +kernel)
set_option maxRecDepth 20000 in
theorem gL_isTold_X4_nodes : GoodIn wsL_isTold (wsV RL 135 RX4 yX4_nodes wsX4_nodes) := goodIn_app (goodIn_of _ (by decide +kernel)) ggL_isTold_X4_nodes
set_option maxRecDepth 20000 in
theorem ggL_isTold_X4_switches : GoodIn wsL_isTold wsX4_switches := goodIn_r _ [101, 17, 102, 103, 104, 28, 105, 35, 274, 275, 276, 277, 278, 279, 280, 281, 282, 283, 284, 285, 286] (by decide +kernel) (by decide +kernel)
set_option maxRecDepth 20000 in
theorem gL_isTold_X4_switches : GoodIn wsL_isTold (wsV RL 138 RX4 yX4_switches wsX4_switches) := goodIn_app (goodIn_of _ (by decide +kernel)) ggL_isTold_X4_switches
set_option maxRecDepth 20000 in
theorem ggL_isTold_X4_log : GoodIn wsL_isTold wsX4_log := goodIn_r _ [109, 110, 111, 112, 113, 114, 115, 116, 274, 275, 276, 277, 278, 279, 280, 292, 293] (by decide +kernel) (by decide +kernel)
set_option maxRecDepth 20000 in
theorem gL_isTold_X4_log : GoodIn wsL_isTold (wsV RL 112 RX4 yX4_log wsX4_log) := goodIn_app (goodIn_of _ (by decide +kernel)) ggL_isTold_X4_log
set_option maxRecDepth 20000 in
theorem ggL_isTold_L_toLive : GoodIn wsL_isTold wsL_toLive := goodIn_ca (goodIn_ca (goodIn_r _ [119, 11, 120, 121, 122, 123, 15, 124, 125, 126, 17, 18, 19, 20, 21, 22, 23, 24, 25, 26, 27, 28, 29, 30, 31, 32, 33, 34, 35, 36, 94, 95, 96, 97, 127, 128, 129, 130, 274, 275, 276, 277, 278, 279, 280, 287, 288, 289, 281, 282, 283, 284, 285, 286] (by decide +kernel) (by decide +kernel)) (goodIn_sub (fun _ h => List.mem_cons_of_mem _ (List.mem_append_left _ (List.mem_append_right _ h))) (by decide +kernel))) (goodIn_sub (fun _ h => List.mem_cons_of_mem _ (List.mem_append_left _ (List.mem_append_left _ (List.mem_append_right _ h)))) (by decide +kernel))
set_option maxRecDepth 20000 in
theorem gL_isTold_L_toLive : GoodIn wsL_isTold (va_wsS RL 141 yL_toLive wsL_toLive) := goodIn_app (goodIn_of _ (by decide +kernel)) ggL_isTold_L_toLive
set_option maxRecDepth 20000 in
theorem ggL_isTold_L_logged : GoodIn wsL_isTold wsL_logged := goodIn_ca (goodIn_r _ [133, 11, 134, 135, 136, 15, 137, 23, 24, 110, 111, 112, 113, 114, 115, 116, 138, 139, 140, 141, 142, 274, 275, 276, 277, 278, 279, 280, 292, 293] (by decide +kernel) (by decide +kernel)) (goodIn_sub (fun _ h => List.mem_cons_of_mem _ (List.mem_append_left _ (List.mem_append_left _ (List.mem_append_right _ h)))) (by decide +kernel))
set_option maxRecDepth 20000 in
theorem gL_isTold_L_logged : GoodIn wsL_isTold (va_wsS RL 143 yL_logged wsL_logged) := goodIn_app (goodIn_of _ (by decide +kernel)) ggL_isTold_L_logged
set_option maxRecDepth 20000 in
theorem ggL_isTold_X4_isClosed : GoodIn wsL_isTold wsX4_isClosed := goodIn_ca (goodIn_r _ [146, 23, 24, 17, 18, 147, 148, 149, 28, 150, 35, 151, 152, 153, 154, 155, 156, 157, 158, 274, 275, 276, 277, 278, 279, 280, 281, 282, 283, 284, 285, 286, 287, 288, 289] (by decide +kernel) (by decide +kernel)) (goodIn_sub (fun _ h => List.mem_cons_of_mem _ (List.mem_append_left _ (List.mem_append_left _ (List.mem_append_right _ h)))) (by decide +kernel))
set_option maxRecDepth 20000 in
theorem gL_isTold_X4_isClosed : GoodIn wsL_isTold (wsV RL 145 RX4 yX4_isClosed wsX4_isClosed) := goodIn_app (goodIn_of _ (by decide +kernel)) ggL_isTold_X4_isClosed
set_option maxRecDepth 20000 in
theorem ggL_isTold_L_randomAct : GoodIn wsL_isTold wsL_randomAct := goodIn_r _ [161, 162, 163, 3, 164] (by decide +kernel) (by decide +kernel)
set_option maxRecDepth 20000 in
theorem gL_isTold_L_randomAct : GoodIn wsL_isTold (va_wsS RL 82 yL_randomAct wsL_randomAct) := goodIn_app (goodIn_of _ (by decide +kernel)) ggL_isTold_L_randomAct
set_option maxRecDepth 20000 in
theorem ggL_isTold_L_reason : GoodIn wsL_isTold wsL_reason := goodIn_ca (goodIn_ca (goodIn_r _ [167, 168, 11, 169, 170, 171, 15, 172, 18, 173, 174, 175, 176, 177, 178, 23, 24, 17, 179, 180, 181, 147, 148, 149, 28, 150, 35, 25, 26, 27, 29, 30, 182, 183, 184, 185, 79, 186, 187, 188, 189, 190, 191, 192, 193, 194, 195, 151, 152, 153, 154, 155, 156, 157, 158, 196, 197, 198, 199, 200, 201, 202, 203, 204, 205, 206, 36, 80, 81, 82, 83, 84, 85, 86, 207, 208, 209, 210, 211, 212, 213, 214, 215, 216, 217, 218, 219, 220, 221, 222, 223, 224, 225, 226, 227, 58, 59, 60, 61, 62, 45, 32, 33, 34, 228, 229, 230, 231, 232, 233, 234, 235, 41, 42, 43, 44, 50, 51, 52, 53, 236, 237, 238, 239, 240, 241, 242, 243, 274, 275, 276, 277, 278, 279, 280, 281, 282, 283, 284, 285, 286, 287, 288, 289, 290, 291] (by decide +kernel) (by decide +kernel)) (goodIn_sub (fun _ h => List.mem_cons_of_mem _ (List.mem_append_right _ h)) (by decide +kernel))) (goodIn_sub (fun _ h => List.mem_cons_of_mem _ (List.mem_append_left _ (List.mem_append_left _ (List.mem_append_right _ h)))) (by decide +kernel))
set_option maxRecDepth 20000 in
theorem gL_isTold_L_reason : GoodIn wsL_isTold (va_wsS RL 93 yL_reason wsL_reason) := goodIn_app (goodIn_of _ (by decide +kernel)) ggL_isTold_L_reason
set_option maxRecDepth 20000 in
theorem ggL_isTold_L_why : GoodIn wsL_isTold wsL_why := goodIn_r _ [246, 87, 88, 3, 89, 1, 2, 4, 5, 6, 7] (by decide +kernel) (by decide +kernel)
set_option maxRecDepth 20000 in
theorem gL_isTold_L_why : GoodIn wsL_isTold (va_wsS RL 89 yL_why wsL_why) := goodIn_app (goodIn_of _ (by decide +kernel)) ggL_isTold_L_why
set_option maxRecDepth 20000 in
theorem ggL_isTold_X4_times : GoodIn wsL_isTold wsX4_times := goodIn_ca (goodIn_ca (goodIn_r _ [250, 110, 173, 174, 175, 15, 176, 177, 178, 23, 24, 17, 179, 180, 181, 147, 148, 149, 28, 150, 35, 25, 26, 27, 29, 30, 251, 252, 253, 254, 255, 256, 114, 257, 116, 142, 274, 275, 276, 277, 278, 279, 280, 281, 282, 283, 284, 285, 286, 292, 293] (by decide +kernel) (by decide +kernel)) (goodIn_sub (fun _ h => List.mem_cons_of_mem _ (List.mem_append_right _ h)) (by decide +kernel))) (goodIn_sub (fun _ h => List.mem_cons_of_mem _ (List.mem_append_left _ (List.mem_append_left _ (List.mem_append_right _ h)))) (by decide +kernel))
set_option maxRecDepth 20000 in
theorem gL_isTold_X4_times : GoodIn wsL_isTold (wsV RL 149 RX4 yX4_times wsX4_times) := goodIn_app (goodIn_of _ (by decide +kernel)) ggL_isTold_X4_times
set_option maxRecDepth 20000 in
theorem ggL_isTold_X4_check : GoodIn wsL_isTold wsX4_check := goodIn_r _ [261, 262, 18, 263, 207, 208, 209, 154, 210, 156, 157, 158, 111, 112, 113, 114, 115, 116, 264, 265, 266, 267, 142, 268, 269, 15, 270, 271, 272, 273, 182, 183, 184, 185, 79, 186, 187, 188, 189, 190, 17, 191, 192, 193, 28, 194, 195, 151, 152, 153, 155, 196, 197, 198, 199, 200, 201, 202, 179, 180, 181, 203, 204, 205, 206, 36, 80, 81, 82, 83, 84, 85, 86, 211, 212, 213, 214, 215, 216, 217, 218, 219, 220, 221, 222, 223, 224, 225, 226, 227, 58, 59, 60, 61, 62, 45, 32, 33, 34, 30, 35, 228, 229, 230, 231, 232, 233, 234, 235, 41, 42, 43, 44, 50, 51, 52, 53, 236, 237, 238, 239, 240, 241, 242, 243, 274, 275, 276, 277, 278, 279, 280, 287, 288, 289, 292, 293, 281, 282, 283, 284, 285, 286, 290, 291] (by decide +kernel) (by decide +kernel)
set_option maxRecDepth 20000 in
theorem gL_isTold_X4_check : GoodIn wsL_isTold (wsV RL 152 RX4 yX4_check wsX4_check) := goodIn_app (goodIn_of _ (by decide +kernel)) ggL_isTold_X4_check
theorem dL_isTold_0 : decode cL_isTold 0 = .ok (.aload_n 2, 1) := by decide +kernel
theorem dL_isTold_1 : decode cL_isTold 1 = .ok (.aload 5, 2) := by decide +kernel
theorem dL_isTold_3 : decode cL_isTold 3 = .ok (.aload 10, 2) := by decide +kernel
theorem dL_isTold_5 : decode cL_isTold 5 = .ok (.aload_n 3, 1) := by decide +kernel
theorem dL_isTold_6 : decode cL_isTold 6 = .ok (.iconst 0, 1) := by decide +kernel
theorem dL_isTold_7 : decode cL_isTold 7 = .ok (.iaload, 1) := by decide +kernel
theorem dL_isTold_8 : decode cL_isTold 8 = .ok (.invokestatic 65, 3) := by decide +kernel
theorem dL_isTold_11 : decode cL_isTold 11 = .ok (.aload 5, 2) := by decide +kernel
theorem dL_isTold_13 : decode cL_isTold 13 = .ok (.aload 10, 2) := by decide +kernel
theorem dL_isTold_15 : decode cL_isTold 15 = .ok (.aload_n 3, 1) := by decide +kernel
theorem dL_isTold_16 : decode cL_isTold 16 = .ok (.iconst 2, 1) := by decide +kernel
theorem dL_isTold_17 : decode cL_isTold 17 = .ok (.iaload, 1) := by decide +kernel
theorem dL_isTold_18 : decode cL_isTold 18 = .ok (.invokestatic 69, 3) := by decide +kernel
theorem dL_isTold_21 : decode cL_isTold 21 = .ok (.istore 11, 2) := by decide +kernel
theorem dL_isTold_23 : decode cL_isTold 23 = .ok (.iconst 0, 1) := by decide +kernel
theorem dL_isTold_24 : decode cL_isTold 24 = .ok (.istore 12, 2) := by decide +kernel
theorem dL_isTold_26 : decode cL_isTold 26 = .ok (.iconst 0, 1) := by decide +kernel
theorem dL_isTold_27 : decode cL_isTold 27 = .ok (.istore 13, 2) := by decide +kernel
theorem dL_isTold_29 : decode cL_isTold 29 = .ok (.iload 13, 2) := by decide +kernel
theorem dL_isTold_31 : decode cL_isTold 31 = .ok (.aload 10, 2) := by decide +kernel
theorem dL_isTold_33 : decode cL_isTold 33 = .ok (.iconst 0, 1) := by decide +kernel
theorem dL_isTold_34 : decode cL_isTold 34 = .ok (.iaload, 1) := by decide +kernel
theorem dL_isTold_35 : decode cL_isTold 35 = .ok (.if_icmp .ge 50, 3) := by decide +kernel
theorem dL_isTold_38 : decode cL_isTold 38 = .ok (.aload_n 0, 1) := by decide +kernel
theorem dL_isTold_39 : decode cL_isTold 39 = .ok (.iload 13, 2) := by decide +kernel
theorem dL_isTold_41 : decode cL_isTold 41 = .ok (.invokestatic 121, 3) := by decide +kernel
theorem dL_isTold_44 : decode cL_isTold 44 = .ok (.aload 5, 2) := by decide +kernel
theorem dL_isTold_46 : decode cL_isTold 46 = .ok (.iload 13, 2) := by decide +kernel
theorem dL_isTold_48 : decode cL_isTold 48 = .ok (.iaload, 1) := by decide +kernel
theorem dL_isTold_49 : decode cL_isTold 49 = .ok (.if_icmp .eq 5, 3) := by decide +kernel
theorem dL_isTold_52 : decode cL_isTold 52 = .ok (.iconst 0, 1) := by decide +kernel
theorem dL_isTold_53 : decode cL_isTold 53 = .ok (.ireturn, 1) := by decide +kernel
theorem dL_isTold_54 : decode cL_isTold 54 = .ok (.iload 12, 2) := by decide +kernel
theorem dL_isTold_56 : decode cL_isTold 56 = .ok (.aload 5, 2) := by decide +kernel
theorem dL_isTold_58 : decode cL_isTold 58 = .ok (.iload 13, 2) := by decide +kernel
theorem dL_isTold_60 : decode cL_isTold 60 = .ok (.iaload, 1) := by decide +kernel
theorem dL_isTold_61 : decode cL_isTold 61 = .ok (.iconst 1, 1) := by decide +kernel
theorem dL_isTold_62 : decode cL_isTold 62 = .ok (.iload 13, 2) := by decide +kernel
theorem dL_isTold_64 : decode cL_isTold 64 = .ok (.ishl, 1) := by decide +kernel
theorem dL_isTold_65 : decode cL_isTold 65 = .ok (.iconst 1, 1) := by decide +kernel
theorem dL_isTold_66 : decode cL_isTold 66 = .ok (.isub, 1) := by decide +kernel
theorem dL_isTold_67 : decode cL_isTold 67 = .ok (.iand, 1) := by decide +kernel
theorem dL_isTold_68 : decode cL_isTold 68 = .ok (.ifCond .ne 7, 3) := by decide +kernel
theorem dL_isTold_71 : decode cL_isTold 71 = .ok (.iconst 1, 1) := by decide +kernel
theorem dL_isTold_72 : decode cL_isTold 72 = .ok (.goto 4, 3) := by decide +kernel
theorem dL_isTold_75 : decode cL_isTold 75 = .ok (.iconst 0, 1) := by decide +kernel
theorem dL_isTold_76 : decode cL_isTold 76 = .ok (.iadd, 1) := by decide +kernel
theorem dL_isTold_77 : decode cL_isTold 77 = .ok (.istore 12, 2) := by decide +kernel
theorem dL_isTold_79 : decode cL_isTold 79 = .ok (.iinc 13 1, 3) := by decide +kernel
theorem dL_isTold_82 : decode cL_isTold 82 = .ok (.goto (-53), 3) := by decide +kernel
theorem dL_isTold_85 : decode cL_isTold 85 = .ok (.aload_n 0, 1) := by decide +kernel
theorem dL_isTold_86 : decode cL_isTold 86 = .ok (.invokevirtual 123, 3) := by decide +kernel
theorem dL_isTold_89 : decode cL_isTold 89 = .ok (.iload 11, 2) := by decide +kernel
theorem dL_isTold_91 : decode cL_isTold 91 = .ok (.if_icmp .ne 156, 3) := by decide +kernel
theorem dL_isTold_94 : decode cL_isTold 94 = .ok (.aload_n 0, 1) := by decide +kernel
theorem dL_isTold_95 : decode cL_isTold 95 = .ok (.invokevirtual 126, 3) := by decide +kernel
theorem dL_isTold_98 : decode cL_isTold 98 = .ok (.aload 5, 2) := by decide +kernel
theorem dL_isTold_100 : decode cL_isTold 100 = .ok (.aload 10, 2) := by decide +kernel
theorem dL_isTold_102 : decode cL_isTold 102 = .ok (.aload_n 3, 1) := by decide +kernel
theorem dL_isTold_103 : decode cL_isTold 103 = .ok (.iconst 1, 1) := by decide +kernel
theorem dL_isTold_104 : decode cL_isTold 104 = .ok (.iaload, 1) := by decide +kernel
theorem dL_isTold_105 : decode cL_isTold 105 = .ok (.invokestatic 69, 3) := by decide +kernel
theorem dL_isTold_108 : decode cL_isTold 108 = .ok (.if_icmp .ne 139, 3) := by decide +kernel
theorem dL_isTold_111 : decode cL_isTold 111 = .ok (.aload_n 0, 1) := by decide +kernel
theorem dL_isTold_112 : decode cL_isTold 112 = .ok (.invokevirtual 129, 3) := by decide +kernel
theorem dL_isTold_115 : decode cL_isTold 115 = .ok (.iload 11, 2) := by decide +kernel
theorem dL_isTold_117 : decode cL_isTold 117 = .ok (.aload 5, 2) := by decide +kernel
theorem dL_isTold_119 : decode cL_isTold 119 = .ok (.aload 10, 2) := by decide +kernel
theorem dL_isTold_121 : decode cL_isTold 121 = .ok (.aload 10, 2) := by decide +kernel
theorem dL_isTold_123 : decode cL_isTold 123 = .ok (.iconst 3, 1) := by decide +kernel
theorem dL_isTold_124 : decode cL_isTold 124 = .ok (.iaload, 1) := by decide +kernel
theorem dL_isTold_125 : decode cL_isTold 125 = .ok (.invokestatic 69, 3) := by decide +kernel
theorem dL_isTold_128 : decode cL_isTold 128 = .ok (.iand, 1) := by decide +kernel
theorem dL_isTold_129 : decode cL_isTold 129 = .ok (.if_icmp .ne 118, 3) := by decide +kernel
theorem dL_isTold_132 : decode cL_isTold 132 = .ok (.aload_n 0, 1) := by decide +kernel
theorem dL_isTold_133 : decode cL_isTold 133 = .ok (.invokevirtual 132, 3) := by decide +kernel
theorem dL_isTold_136 : decode cL_isTold 136 = .ok (.iload 12, 2) := by decide +kernel
theorem dL_isTold_138 : decode cL_isTold 138 = .ok (.if_icmp .ne 109, 3) := by decide +kernel
theorem dL_isTold_141 : decode cL_isTold 141 = .ok (.aload_n 0, 1) := by decide +kernel
theorem dL_isTold_142 : decode cL_isTold 142 = .ok (.invokevirtual 117, 3) := by decide +kernel
theorem dL_isTold_145 : decode cL_isTold 145 = .ok (.aload 8, 2) := by decide +kernel
theorem dL_isTold_147 : decode cL_isTold 147 = .ok (.aload 10, 2) := by decide +kernel
theorem dL_isTold_149 : decode cL_isTold 149 = .ok (.invokestatic 59, 3) := by decide +kernel
theorem dL_isTold_152 : decode cL_isTold 152 = .ok (.if_icmp .ne 95, 3) := by decide +kernel
theorem dL_isTold_155 : decode cL_isTold 155 = .ok (.aload_n 0, 1) := by decide +kernel
theorem dL_isTold_156 : decode cL_isTold 156 = .ok (.invokevirtual 135, 3) := by decide +kernel
theorem dL_isTold_159 : decode cL_isTold 159 = .ok (.aload 10, 2) := by decide +kernel
theorem dL_isTold_161 : decode cL_isTold 161 = .ok (.iconst 0, 1) := by decide +kernel
theorem dL_isTold_162 : decode cL_isTold 162 = .ok (.iaload, 1) := by decide +kernel
theorem dL_isTold_163 : decode cL_isTold 163 = .ok (.if_icmp .ne 84, 3) := by decide +kernel
theorem dL_isTold_166 : decode cL_isTold 166 = .ok (.aload_n 0, 1) := by decide +kernel
theorem dL_isTold_167 : decode cL_isTold 167 = .ok (.invokevirtual 138, 3) := by decide +kernel
theorem dL_isTold_170 : decode cL_isTold 170 = .ok (.aload 10, 2) := by decide +kernel
theorem dL_isTold_172 : decode cL_isTold 172 = .ok (.iconst 1, 1) := by decide +kernel
theorem dL_isTold_173 : decode cL_isTold 173 = .ok (.iaload, 1) := by decide +kernel
theorem dL_isTold_174 : decode cL_isTold 174 = .ok (.if_icmp .ne 73, 3) := by decide +kernel
theorem dL_isTold_177 : decode cL_isTold 177 = .ok (.aload_n 0, 1) := by decide +kernel
theorem dL_isTold_178 : decode cL_isTold 178 = .ok (.invokevirtual 112, 3) := by decide +kernel
theorem dL_isTold_181 : decode cL_isTold 181 = .ok (.aload 10, 2) := by decide +kernel
theorem dL_isTold_183 : decode cL_isTold 183 = .ok (.iconst 4, 1) := by decide +kernel
theorem dL_isTold_184 : decode cL_isTold 184 = .ok (.iaload, 1) := by decide +kernel
theorem dL_isTold_185 : decode cL_isTold 185 = .ok (.if_icmp .ne 62, 3) := by decide +kernel
theorem dL_isTold_188 : decode cL_isTold 188 = .ok (.aload_n 0, 1) := by decide +kernel
theorem dL_isTold_189 : decode cL_isTold 189 = .ok (.aload 10, 2) := by decide +kernel
theorem dL_isTold_191 : decode cL_isTold 191 = .ok (.iconst 0, 1) := by decide +kernel
theorem dL_isTold_192 : decode cL_isTold 192 = .ok (.iaload, 1) := by decide +kernel
theorem dL_isTold_193 : decode cL_isTold 193 = .ok (.invokestatic 121, 3) := by decide +kernel
theorem dL_isTold_196 : decode cL_isTold 196 = .ok (.bipush (-72), 2) := by decide +kernel
theorem dL_isTold_198 : decode cL_isTold 198 = .ok (.if_icmp .ne 49, 3) := by decide +kernel
theorem dL_isTold_201 : decode cL_isTold 201 = .ok (.aload_n 0, 1) := by decide +kernel
theorem dL_isTold_202 : decode cL_isTold 202 = .ok (.iconst (-1), 1) := by decide +kernel
theorem dL_isTold_203 : decode cL_isTold 203 = .ok (.invokestatic 121, 3) := by decide +kernel
theorem dL_isTold_206 : decode cL_isTold 206 = .ok (.bipush (-72), 2) := by decide +kernel
theorem dL_isTold_208 : decode cL_isTold 208 = .ok (.if_icmp .ne 39, 3) := by decide +kernel
theorem dL_isTold_211 : decode cL_isTold 211 = .ok (.aload_n 0, 1) := by decide +kernel
theorem dL_isTold_212 : decode cL_isTold 212 = .ok (.aload 10, 2) := by decide +kernel
theorem dL_isTold_214 : decode cL_isTold 214 = .ok (.iconst 0, 1) := by decide +kernel
theorem dL_isTold_215 : decode cL_isTold 215 = .ok (.iaload, 1) := by decide +kernel
theorem dL_isTold_216 : decode cL_isTold 216 = .ok (.invokestatic 141, 3) := by decide +kernel
theorem dL_isTold_219 : decode cL_isTold 219 = .ok (.bipush (-72), 2) := by decide +kernel
theorem dL_isTold_221 : decode cL_isTold 221 = .ok (.if_icmp .ne 26, 3) := by decide +kernel
theorem dL_isTold_224 : decode cL_isTold 224 = .ok (.aload_n 0, 1) := by decide +kernel
theorem dL_isTold_225 : decode cL_isTold 225 = .ok (.aload 10, 2) := by decide +kernel
theorem dL_isTold_227 : decode cL_isTold 227 = .ok (.iconst 4, 1) := by decide +kernel
theorem dL_isTold_228 : decode cL_isTold 228 = .ok (.iaload, 1) := by decide +kernel
theorem dL_isTold_229 : decode cL_isTold 229 = .ok (.invokestatic 143, 3) := by decide +kernel
theorem dL_isTold_232 : decode cL_isTold 232 = .ok (.bipush (-72), 2) := by decide +kernel
theorem dL_isTold_234 : decode cL_isTold 234 = .ok (.if_icmp .ne 13, 3) := by decide +kernel
theorem dL_isTold_237 : decode cL_isTold 237 = .ok (.aload_n 0, 1) := by decide +kernel
theorem dL_isTold_238 : decode cL_isTold 238 = .ok (.iconst (-1), 1) := by decide +kernel
theorem dL_isTold_239 : decode cL_isTold 239 = .ok (.invokestatic 143, 3) := by decide +kernel
theorem dL_isTold_242 : decode cL_isTold 242 = .ok (.bipush (-72), 2) := by decide +kernel
theorem dL_isTold_244 : decode cL_isTold 244 = .ok (.if_icmp .eq 5, 3) := by decide +kernel
theorem dL_isTold_247 : decode cL_isTold 247 = .ok (.iconst 0, 1) := by decide +kernel
theorem dL_isTold_248 : decode cL_isTold 248 = .ok (.ireturn, 1) := by decide +kernel
theorem dL_isTold_249 : decode cL_isTold 249 = .ok (.iconst 0, 1) := by decide +kernel
theorem dL_isTold_250 : decode cL_isTold 250 = .ok (.istore 13, 2) := by decide +kernel
theorem dL_isTold_252 : decode cL_isTold 252 = .ok (.iload 13, 2) := by decide +kernel
theorem dL_isTold_254 : decode cL_isTold 254 = .ok (.aload 10, 2) := by decide +kernel
theorem dL_isTold_256 : decode cL_isTold 256 = .ok (.iconst 1, 1) := by decide +kernel
theorem dL_isTold_257 : decode cL_isTold 257 = .ok (.iaload, 1) := by decide +kernel
theorem dL_isTold_258 : decode cL_isTold 258 = .ok (.if_icmp .ge 37, 3) := by decide +kernel
theorem dL_isTold_261 : decode cL_isTold 261 = .ok (.aload_n 0, 1) := by decide +kernel
theorem dL_isTold_262 : decode cL_isTold 262 = .ok (.iload 13, 2) := by decide +kernel
theorem dL_isTold_264 : decode cL_isTold 264 = .ok (.invokevirtual 145, 3) := by decide +kernel
theorem dL_isTold_267 : decode cL_isTold 267 = .ok (.aload_n 3, 1) := by decide +kernel
theorem dL_isTold_268 : decode cL_isTold 268 = .ok (.iconst 0, 1) := by decide +kernel
theorem dL_isTold_269 : decode cL_isTold 269 = .ok (.iaload, 1) := by decide +kernel
theorem dL_isTold_270 : decode cL_isTold 270 = .ok (.iload 13, 2) := by decide +kernel
theorem dL_isTold_272 : decode cL_isTold 272 = .ok (.ishr, 1) := by decide +kernel
theorem dL_isTold_273 : decode cL_isTold 273 = .ok (.iconst 1, 1) := by decide +kernel
theorem dL_isTold_274 : decode cL_isTold 274 = .ok (.iand, 1) := by decide +kernel
theorem dL_isTold_275 : decode cL_isTold 275 = .ok (.iconst 1, 1) := by decide +kernel
theorem dL_isTold_276 : decode cL_isTold 276 = .ok (.if_icmp .ne 7, 3) := by decide +kernel
theorem dL_isTold_279 : decode cL_isTold 279 = .ok (.iconst 1, 1) := by decide +kernel
theorem dL_isTold_280 : decode cL_isTold 280 = .ok (.goto 4, 3) := by decide +kernel
theorem dL_isTold_283 : decode cL_isTold 283 = .ok (.iconst 0, 1) := by decide +kernel
theorem dL_isTold_284 : decode cL_isTold 284 = .ok (.if_icmp .eq 5, 3) := by decide +kernel
theorem dL_isTold_287 : decode cL_isTold 287 = .ok (.iconst 0, 1) := by decide +kernel
theorem dL_isTold_288 : decode cL_isTold 288 = .ok (.ireturn, 1) := by decide +kernel
theorem dL_isTold_289 : decode cL_isTold 289 = .ok (.iinc 13 1, 3) := by decide +kernel
theorem dL_isTold_292 : decode cL_isTold 292 = .ok (.goto (-40), 3) := by decide +kernel
theorem dL_isTold_295 : decode cL_isTold 295 = .ok (.iconst 0, 1) := by decide +kernel
theorem dL_isTold_296 : decode cL_isTold 296 = .ok (.istore 13, 2) := by decide +kernel
theorem dL_isTold_298 : decode cL_isTold 298 = .ok (.iload 13, 2) := by decide +kernel
theorem dL_isTold_300 : decode cL_isTold 300 = .ok (.aload 10, 2) := by decide +kernel
theorem dL_isTold_302 : decode cL_isTold 302 = .ok (.iconst 4, 1) := by decide +kernel
theorem dL_isTold_303 : decode cL_isTold 303 = .ok (.iaload, 1) := by decide +kernel
theorem dL_isTold_304 : decode cL_isTold 304 = .ok (.if_icmp .ge 32, 3) := by decide +kernel
theorem dL_isTold_307 : decode cL_isTold 307 = .ok (.aload_n 0, 1) := by decide +kernel
theorem dL_isTold_308 : decode cL_isTold 308 = .ok (.iload 13, 2) := by decide +kernel
theorem dL_isTold_310 : decode cL_isTold 310 = .ok (.invokestatic 143, 3) := by decide +kernel
theorem dL_isTold_313 : decode cL_isTold 313 = .ok (.aload 6, 2) := by decide +kernel
theorem dL_isTold_315 : decode cL_isTold 315 = .ok (.aload 10, 2) := by decide +kernel
theorem dL_isTold_317 : decode cL_isTold 317 = .ok (.iconst 4, 1) := by decide +kernel
theorem dL_isTold_318 : decode cL_isTold 318 = .ok (.iaload, 1) := by decide +kernel
theorem dL_isTold_319 : decode cL_isTold 319 = .ok (.iconst 1, 1) := by decide +kernel
theorem dL_isTold_320 : decode cL_isTold 320 = .ok (.isub, 1) := by decide +kernel
theorem dL_isTold_321 : decode cL_isTold 321 = .ok (.iload 13, 2) := by decide +kernel
theorem dL_isTold_323 : decode cL_isTold 323 = .ok (.isub, 1) := by decide +kernel
theorem dL_isTold_324 : decode cL_isTold 324 = .ok (.iaload, 1) := by decide +kernel
theorem dL_isTold_325 : decode cL_isTold 325 = .ok (.if_icmp .eq 5, 3) := by decide +kernel
theorem dL_isTold_328 : decode cL_isTold 328 = .ok (.iconst 0, 1) := by decide +kernel
theorem dL_isTold_329 : decode cL_isTold 329 = .ok (.ireturn, 1) := by decide +kernel
theorem dL_isTold_330 : decode cL_isTold 330 = .ok (.iinc 13 1, 3) := by decide +kernel
theorem dL_isTold_333 : decode cL_isTold 333 = .ok (.goto (-35), 3) := by decide +kernel
theorem dL_isTold_336 : decode cL_isTold 336 = .ok (.aload 10, 2) := by decide +kernel
theorem dL_isTold_338 : decode cL_isTold 338 = .ok (.iconst 0, 1) := by decide +kernel
theorem dL_isTold_339 : decode cL_isTold 339 = .ok (.iaload, 1) := by decide +kernel
theorem dL_isTold_340 : decode cL_isTold 340 = .ok (.ifCond .ne 5, 3) := by decide +kernel
theorem dL_isTold_343 : decode cL_isTold 343 = .ok (.iconst 1, 1) := by decide +kernel
theorem dL_isTold_344 : decode cL_isTold 344 = .ok (.ireturn, 1) := by decide +kernel
theorem dL_isTold_345 : decode cL_isTold 345 = .ok (.iconst 0, 1) := by decide +kernel
theorem dL_isTold_346 : decode cL_isTold 346 = .ok (.istore 13, 2) := by decide +kernel
theorem dL_isTold_348 : decode cL_isTold 348 = .ok (.iload 13, 2) := by decide +kernel
theorem dL_isTold_350 : decode cL_isTold 350 = .ok (.aload 10, 2) := by decide +kernel
theorem dL_isTold_352 : decode cL_isTold 352 = .ok (.iconst 0, 1) := by decide +kernel
theorem dL_isTold_353 : decode cL_isTold 353 = .ok (.iaload, 1) := by decide +kernel
theorem dL_isTold_354 : decode cL_isTold 354 = .ok (.if_icmp .ge 31, 3) := by decide +kernel
theorem dL_isTold_357 : decode cL_isTold 357 = .ok (.aload 9, 2) := by decide +kernel
theorem dL_isTold_359 : decode cL_isTold 359 = .ok (.iload 13, 2) := by decide +kernel
theorem dL_isTold_361 : decode cL_isTold 361 = .ok (.iload 11, 2) := by decide +kernel
theorem dL_isTold_363 : decode cL_isTold 363 = .ok (.iload 13, 2) := by decide +kernel
theorem dL_isTold_365 : decode cL_isTold 365 = .ok (.ishr, 1) := by decide +kernel
theorem dL_isTold_366 : decode cL_isTold 366 = .ok (.iconst 1, 1) := by decide +kernel
theorem dL_isTold_367 : decode cL_isTold 367 = .ok (.iand, 1) := by decide +kernel
theorem dL_isTold_368 : decode cL_isTold 368 = .ok (.iconst 1, 1) := by decide +kernel
theorem dL_isTold_369 : decode cL_isTold 369 = .ok (.if_icmp .ne 7, 3) := by decide +kernel
theorem dL_isTold_372 : decode cL_isTold 372 = .ok (.iconst 0, 1) := by decide +kernel
theorem dL_isTold_373 : decode cL_isTold 373 = .ok (.goto 5, 3) := by decide +kernel
theorem dL_isTold_376 : decode cL_isTold 376 = .ok (.bipush 99, 2) := by decide +kernel
theorem dL_isTold_378 : decode cL_isTold 378 = .ok (.iastore, 1) := by decide +kernel
theorem dL_isTold_379 : decode cL_isTold 379 = .ok (.iinc 13 1, 3) := by decide +kernel
theorem dL_isTold_382 : decode cL_isTold 382 = .ok (.goto (-34), 3) := by decide +kernel
theorem dL_isTold_385 : decode cL_isTold 385 = .ok (.iload 11, 2) := by decide +kernel
theorem dL_isTold_387 : decode cL_isTold 387 = .ok (.istore 13, 2) := by decide +kernel
theorem dL_isTold_389 : decode cL_isTold 389 = .ok (.iconst 1, 1) := by decide +kernel
theorem dL_isTold_390 : decode cL_isTold 390 = .ok (.istore 14, 2) := by decide +kernel
theorem dL_isTold_392 : decode cL_isTold 392 = .ok (.iload 14, 2) := by decide +kernel
theorem dL_isTold_394 : decode cL_isTold 394 = .ok (.bipush 17, 2) := by decide +kernel
theorem dL_isTold_396 : decode cL_isTold 396 = .ok (.if_icmp .ge 138, 3) := by decide +kernel
theorem dL_isTold_399 : decode cL_isTold 399 = .ok (.iload 13, 2) := by decide +kernel
theorem dL_isTold_401 : decode cL_isTold 401 = .ok (.istore 15, 2) := by decide +kernel
theorem dL_isTold_403 : decode cL_isTold 403 = .ok (.iconst 0, 1) := by decide +kernel
theorem dL_isTold_404 : decode cL_isTold 404 = .ok (.istore 16, 2) := by decide +kernel
theorem dL_isTold_406 : decode cL_isTold 406 = .ok (.iload 16, 2) := by decide +kernel
theorem dL_isTold_408 : decode cL_isTold 408 = .ok (.aload 10, 2) := by decide +kernel
theorem dL_isTold_410 : decode cL_isTold 410 = .ok (.iconst 1, 1) := by decide +kernel
theorem dL_isTold_411 : decode cL_isTold 411 = .ok (.iaload, 1) := by decide +kernel
theorem dL_isTold_412 : decode cL_isTold 412 = .ok (.if_icmp .ge 66, 3) := by decide +kernel
theorem dL_isTold_415 : decode cL_isTold 415 = .ok (.iload 13, 2) := by decide +kernel
theorem dL_isTold_417 : decode cL_isTold 417 = .ok (.aload_n 2, 1) := by decide +kernel
theorem dL_isTold_418 : decode cL_isTold 418 = .ok (.iload 16, 2) := by decide +kernel
theorem dL_isTold_420 : decode cL_isTold 420 = .ok (.iaload, 1) := by decide +kernel
theorem dL_isTold_421 : decode cL_isTold 421 = .ok (.bipush 15, 2) := by decide +kernel
theorem dL_isTold_423 : decode cL_isTold 423 = .ok (.iand, 1) := by decide +kernel
theorem dL_isTold_424 : decode cL_isTold 424 = .ok (.ishr, 1) := by decide +kernel
theorem dL_isTold_425 : decode cL_isTold 425 = .ok (.iload 13, 2) := by decide +kernel
theorem dL_isTold_427 : decode cL_isTold 427 = .ok (.aload_n 2, 1) := by decide +kernel
theorem dL_isTold_428 : decode cL_isTold 428 = .ok (.iload 16, 2) := by decide +kernel
theorem dL_isTold_430 : decode cL_isTold 430 = .ok (.iaload, 1) := by decide +kernel
theorem dL_isTold_431 : decode cL_isTold 431 = .ok (.iconst 4, 1) := by decide +kernel
theorem dL_isTold_432 : decode cL_isTold 432 = .ok (.ishr, 1) := by decide +kernel
theorem dL_isTold_433 : decode cL_isTold 433 = .ok (.bipush 15, 2) := by decide +kernel
theorem dL_isTold_435 : decode cL_isTold 435 = .ok (.iand, 1) := by decide +kernel
theorem dL_isTold_436 : decode cL_isTold 436 = .ok (.ishr, 1) := by decide +kernel
theorem dL_isTold_437 : decode cL_isTold 437 = .ok (.ior, 1) := by decide +kernel
theorem dL_isTold_438 : decode cL_isTold 438 = .ok (.iconst 1, 1) := by decide +kernel
theorem dL_isTold_439 : decode cL_isTold 439 = .ok (.iand, 1) := by decide +kernel
theorem dL_isTold_440 : decode cL_isTold 440 = .ok (.iconst 1, 1) := by decide +kernel
theorem dL_isTold_441 : decode cL_isTold 441 = .ok (.if_icmp .ne 31, 3) := by decide +kernel
theorem dL_isTold_444 : decode cL_isTold 444 = .ok (.iload 15, 2) := by decide +kernel
theorem dL_isTold_446 : decode cL_isTold 446 = .ok (.aload 5, 2) := by decide +kernel
theorem dL_isTold_448 : decode cL_isTold 448 = .ok (.aload_n 2, 1) := by decide +kernel
theorem dL_isTold_449 : decode cL_isTold 449 = .ok (.iload 16, 2) := by decide +kernel
theorem dL_isTold_451 : decode cL_isTold 451 = .ok (.iaload, 1) := by decide +kernel
theorem dL_isTold_452 : decode cL_isTold 452 = .ok (.bipush 15, 2) := by decide +kernel
theorem dL_isTold_454 : decode cL_isTold 454 = .ok (.iand, 1) := by decide +kernel
theorem dL_isTold_455 : decode cL_isTold 455 = .ok (.iaload, 1) := by decide +kernel
theorem dL_isTold_456 : decode cL_isTold 456 = .ok (.aload 5, 2) := by decide +kernel
theorem dL_isTold_458 : decode cL_isTold 458 = .ok (.aload_n 2, 1) := by decide +kernel
theorem dL_isTold_459 : decode cL_isTold 459 = .ok (.iload 16, 2) := by decide +kernel
theorem dL_isTold_461 : decode cL_isTold 461 = .ok (.iaload, 1) := by decide +kernel
theorem dL_isTold_462 : decode cL_isTold 462 = .ok (.iconst 4, 1) := by decide +kernel
theorem dL_isTold_463 : decode cL_isTold 463 = .ok (.ishr, 1) := by decide +kernel
theorem dL_isTold_464 : decode cL_isTold 464 = .ok (.bipush 15, 2) := by decide +kernel
theorem dL_isTold_466 : decode cL_isTold 466 = .ok (.iand, 1) := by decide +kernel
theorem dL_isTold_467 : decode cL_isTold 467 = .ok (.iaload, 1) := by decide +kernel
theorem dL_isTold_468 : decode cL_isTold 468 = .ok (.ior, 1) := by decide +kernel
theorem dL_isTold_469 : decode cL_isTold 469 = .ok (.ior, 1) := by decide +kernel
theorem dL_isTold_470 : decode cL_isTold 470 = .ok (.istore 15, 2) := by decide +kernel
theorem dL_isTold_472 : decode cL_isTold 472 = .ok (.iinc 16 1, 3) := by decide +kernel
theorem dL_isTold_475 : decode cL_isTold 475 = .ok (.goto (-69), 3) := by decide +kernel
theorem dL_isTold_478 : decode cL_isTold 478 = .ok (.iconst 0, 1) := by decide +kernel
theorem dL_isTold_479 : decode cL_isTold 479 = .ok (.istore 16, 2) := by decide +kernel
theorem dL_isTold_481 : decode cL_isTold 481 = .ok (.iload 16, 2) := by decide +kernel
theorem dL_isTold_483 : decode cL_isTold 483 = .ok (.aload 10, 2) := by decide +kernel
theorem dL_isTold_485 : decode cL_isTold 485 = .ok (.iconst 0, 1) := by decide +kernel
theorem dL_isTold_486 : decode cL_isTold 486 = .ok (.iaload, 1) := by decide +kernel
theorem dL_isTold_487 : decode cL_isTold 487 = .ok (.if_icmp .ge 37, 3) := by decide +kernel
theorem dL_isTold_490 : decode cL_isTold 490 = .ok (.iload 15, 2) := by decide +kernel
theorem dL_isTold_492 : decode cL_isTold 492 = .ok (.iload 16, 2) := by decide +kernel
theorem dL_isTold_494 : decode cL_isTold 494 = .ok (.ishr, 1) := by decide +kernel
theorem dL_isTold_495 : decode cL_isTold 495 = .ok (.iconst 1, 1) := by decide +kernel
theorem dL_isTold_496 : decode cL_isTold 496 = .ok (.iand, 1) := by decide +kernel
theorem dL_isTold_497 : decode cL_isTold 497 = .ok (.iconst 1, 1) := by decide +kernel
theorem dL_isTold_498 : decode cL_isTold 498 = .ok (.if_icmp .ne 20, 3) := by decide +kernel
theorem dL_isTold_501 : decode cL_isTold 501 = .ok (.aload 9, 2) := by decide +kernel
theorem dL_isTold_503 : decode cL_isTold 503 = .ok (.iload 16, 2) := by decide +kernel
theorem dL_isTold_505 : decode cL_isTold 505 = .ok (.iaload, 1) := by decide +kernel
theorem dL_isTold_506 : decode cL_isTold 506 = .ok (.bipush 99, 2) := by decide +kernel
theorem dL_isTold_508 : decode cL_isTold 508 = .ok (.if_icmp .ne 10, 3) := by decide +kernel
theorem dL_isTold_511 : decode cL_isTold 511 = .ok (.aload 9, 2) := by decide +kernel
theorem dL_isTold_513 : decode cL_isTold 513 = .ok (.iload 16, 2) := by decide +kernel
theorem dL_isTold_515 : decode cL_isTold 515 = .ok (.iload 14, 2) := by decide +kernel
theorem dL_isTold_517 : decode cL_isTold 517 = .ok (.iastore, 1) := by decide +kernel
theorem dL_isTold_518 : decode cL_isTold 518 = .ok (.iinc 16 1, 3) := by decide +kernel
theorem dL_isTold_521 : decode cL_isTold 521 = .ok (.goto (-40), 3) := by decide +kernel
theorem dL_isTold_524 : decode cL_isTold 524 = .ok (.iload 15, 2) := by decide +kernel
theorem dL_isTold_526 : decode cL_isTold 526 = .ok (.istore 13, 2) := by decide +kernel
theorem dL_isTold_528 : decode cL_isTold 528 = .ok (.iinc 14 1, 3) := by decide +kernel
theorem dL_isTold_531 : decode cL_isTold 531 = .ok (.goto (-139), 3) := by decide +kernel
theorem dL_isTold_534 : decode cL_isTold 534 = .ok (.iconst 0, 1) := by decide +kernel
theorem dL_isTold_535 : decode cL_isTold 535 = .ok (.istore 14, 2) := by decide +kernel
theorem dL_isTold_537 : decode cL_isTold 537 = .ok (.iload 14, 2) := by decide +kernel
theorem dL_isTold_539 : decode cL_isTold 539 = .ok (.aload 10, 2) := by decide +kernel
theorem dL_isTold_541 : decode cL_isTold 541 = .ok (.iconst 0, 1) := by decide +kernel
theorem dL_isTold_542 : decode cL_isTold 542 = .ok (.iaload, 1) := by decide +kernel
theorem dL_isTold_543 : decode cL_isTold 543 = .ok (.if_icmp .ge 40, 3) := by decide +kernel
theorem dL_isTold_546 : decode cL_isTold 546 = .ok (.aload_n 0, 1) := by decide +kernel
theorem dL_isTold_547 : decode cL_isTold 547 = .ok (.iload 14, 2) := by decide +kernel
theorem dL_isTold_549 : decode cL_isTold 549 = .ok (.invokestatic 141, 3) := by decide +kernel
theorem dL_isTold_552 : decode cL_isTold 552 = .ok (.aload 9, 2) := by decide +kernel
theorem dL_isTold_554 : decode cL_isTold 554 = .ok (.iload 14, 2) := by decide +kernel
theorem dL_isTold_556 : decode cL_isTold 556 = .ok (.iaload, 1) := by decide +kernel
theorem dL_isTold_557 : decode cL_isTold 557 = .ok (.bipush 99, 2) := by decide +kernel
theorem dL_isTold_559 : decode cL_isTold 559 = .ok (.if_icmp .ne 8, 3) := by decide +kernel
theorem dL_isTold_562 : decode cL_isTold 562 = .ok (.bipush (-74), 2) := by decide +kernel
theorem dL_isTold_564 : decode cL_isTold 564 = .ok (.goto 8, 3) := by decide +kernel
theorem dL_isTold_567 : decode cL_isTold 567 = .ok (.aload 9, 2) := by decide +kernel
theorem dL_isTold_569 : decode cL_isTold 569 = .ok (.iload 14, 2) := by decide +kernel
theorem dL_isTold_571 : decode cL_isTold 571 = .ok (.iaload, 1) := by decide +kernel
theorem dL_isTold_572 : decode cL_isTold 572 = .ok (.if_icmp .eq 5, 3) := by decide +kernel
theorem dL_isTold_575 : decode cL_isTold 575 = .ok (.iconst 0, 1) := by decide +kernel
theorem dL_isTold_576 : decode cL_isTold 576 = .ok (.ireturn, 1) := by decide +kernel
theorem dL_isTold_577 : decode cL_isTold 577 = .ok (.iinc 14 1, 3) := by decide +kernel
theorem dL_isTold_580 : decode cL_isTold 580 = .ok (.goto (-43), 3) := by decide +kernel
theorem dL_isTold_583 : decode cL_isTold 583 = .ok (.iconst 0, 1) := by decide +kernel
theorem dL_isTold_584 : decode cL_isTold 584 = .ok (.istore 14, 2) := by decide +kernel
theorem dL_isTold_586 : decode cL_isTold 586 = .ok (.iload 14, 2) := by decide +kernel
theorem dL_isTold_588 : decode cL_isTold 588 = .ok (.bipush 6, 2) := by decide +kernel
theorem dL_isTold_590 : decode cL_isTold 590 = .ok (.if_icmp .ge 114, 3) := by decide +kernel
theorem dL_isTold_593 : decode cL_isTold 593 = .ok (.iload_n 1, 1) := by decide +kernel
theorem dL_isTold_594 : decode cL_isTold 594 = .ok (.iconst 2, 1) := by decide +kernel
theorem dL_isTold_595 : decode cL_isTold 595 = .ok (.iload 14, 2) := by decide +kernel
theorem dL_isTold_597 : decode cL_isTold 597 = .ok (.imul, 1) := by decide +kernel
theorem dL_isTold_598 : decode cL_isTold 598 = .ok (.ishr, 1) := by decide +kernel
theorem dL_isTold_599 : decode cL_isTold 599 = .ok (.aload 10, 2) := by decide +kernel
theorem dL_isTold_601 : decode cL_isTold 601 = .ok (.invokestatic 82, 3) := by decide +kernel
theorem dL_isTold_604 : decode cL_isTold 604 = .ok (.istore 15, 2) := by decide +kernel
theorem dL_isTold_606 : decode cL_isTold 606 = .ok (.iconst 0, 1) := by decide +kernel
theorem dL_isTold_607 : decode cL_isTold 607 = .ok (.istore 16, 2) := by decide +kernel
theorem dL_isTold_609 : decode cL_isTold 609 = .ok (.iconst 0, 1) := by decide +kernel
theorem dL_isTold_610 : decode cL_isTold 610 = .ok (.istore 17, 2) := by decide +kernel
theorem dL_isTold_612 : decode cL_isTold 612 = .ok (.iload 17, 2) := by decide +kernel
theorem dL_isTold_614 : decode cL_isTold 614 = .ok (.aload 10, 2) := by decide +kernel
theorem dL_isTold_616 : decode cL_isTold 616 = .ok (.iconst 4, 1) := by decide +kernel
theorem dL_isTold_617 : decode cL_isTold 617 = .ok (.iaload, 1) := by decide +kernel
theorem dL_isTold_618 : decode cL_isTold 618 = .ok (.if_icmp .ge 29, 3) := by decide +kernel
theorem dL_isTold_621 : decode cL_isTold 621 = .ok (.iload 16, 2) := by decide +kernel
theorem dL_isTold_623 : decode cL_isTold 623 = .ok (.aload 6, 2) := by decide +kernel
theorem dL_isTold_625 : decode cL_isTold 625 = .ok (.iload 17, 2) := by decide +kernel
theorem dL_isTold_627 : decode cL_isTold 627 = .ok (.iaload, 1) := by decide +kernel
theorem dL_isTold_628 : decode cL_isTold 628 = .ok (.iload 15, 2) := by decide +kernel
theorem dL_isTold_630 : decode cL_isTold 630 = .ok (.if_icmp .ne 7, 3) := by decide +kernel
theorem dL_isTold_633 : decode cL_isTold 633 = .ok (.iconst 1, 1) := by decide +kernel
theorem dL_isTold_634 : decode cL_isTold 634 = .ok (.goto 4, 3) := by decide +kernel
theorem dL_isTold_637 : decode cL_isTold 637 = .ok (.iconst 0, 1) := by decide +kernel
theorem dL_isTold_638 : decode cL_isTold 638 = .ok (.iadd, 1) := by decide +kernel
theorem dL_isTold_639 : decode cL_isTold 639 = .ok (.istore 16, 2) := by decide +kernel
theorem dL_isTold_641 : decode cL_isTold 641 = .ok (.iinc 17 1, 3) := by decide +kernel
theorem dL_isTold_644 : decode cL_isTold 644 = .ok (.goto (-32), 3) := by decide +kernel
theorem dL_isTold_647 : decode cL_isTold 647 = .ok (.aload_n 0, 1) := by decide +kernel
theorem dL_isTold_648 : decode cL_isTold 648 = .ok (.iload 15, 2) := by decide +kernel
theorem dL_isTold_650 : decode cL_isTold 650 = .ok (.bipush 100, 2) := by decide +kernel
theorem dL_isTold_652 : decode cL_isTold 652 = .ok (.idiv, 1) := by decide +kernel
theorem dL_isTold_653 : decode cL_isTold 653 = .ok (.iload 15, 2) := by decide +kernel
theorem dL_isTold_655 : decode cL_isTold 655 = .ok (.bipush 100, 2) := by decide +kernel
theorem dL_isTold_657 : decode cL_isTold 657 = .ok (.irem, 1) := by decide +kernel
theorem dL_isTold_658 : decode cL_isTold 658 = .ok (.invokestatic 93, 3) := by decide +kernel
theorem dL_isTold_661 : decode cL_isTold 661 = .ok (.aload_n 2, 1) := by decide +kernel
theorem dL_isTold_662 : decode cL_isTold 662 = .ok (.aload 5, 2) := by decide +kernel
theorem dL_isTold_664 : decode cL_isTold 664 = .ok (.aload 8, 2) := by decide +kernel
theorem dL_isTold_666 : decode cL_isTold 666 = .ok (.aload 10, 2) := by decide +kernel
theorem dL_isTold_668 : decode cL_isTold 668 = .ok (.aload_n 3, 1) := by decide +kernel
theorem dL_isTold_669 : decode cL_isTold 669 = .ok (.iload 15, 2) := by decide +kernel
theorem dL_isTold_671 : decode cL_isTold 671 = .ok (.invokestatic 89, 3) := by decide +kernel
theorem dL_isTold_674 : decode cL_isTold 674 = .ok (.if_icmp .ne 22, 3) := by decide +kernel
theorem dL_isTold_677 : decode cL_isTold 677 = .ok (.aload_n 0, 1) := by decide +kernel
theorem dL_isTold_678 : decode cL_isTold 678 = .ok (.iload 15, 2) := by decide +kernel
theorem dL_isTold_680 : decode cL_isTold 680 = .ok (.bipush 100, 2) := by decide +kernel
theorem dL_isTold_682 : decode cL_isTold 682 = .ok (.idiv, 1) := by decide +kernel
theorem dL_isTold_683 : decode cL_isTold 683 = .ok (.iload 15, 2) := by decide +kernel
theorem dL_isTold_685 : decode cL_isTold 685 = .ok (.bipush 100, 2) := by decide +kernel
theorem dL_isTold_687 : decode cL_isTold 687 = .ok (.irem, 1) := by decide +kernel
theorem dL_isTold_688 : decode cL_isTold 688 = .ok (.invokevirtual 149, 3) := by decide +kernel
theorem dL_isTold_691 : decode cL_isTold 691 = .ok (.iload 16, 2) := by decide +kernel
theorem dL_isTold_693 : decode cL_isTold 693 = .ok (.if_icmp .eq 5, 3) := by decide +kernel
theorem dL_isTold_696 : decode cL_isTold 696 = .ok (.iconst 0, 1) := by decide +kernel
theorem dL_isTold_697 : decode cL_isTold 697 = .ok (.ireturn, 1) := by decide +kernel
theorem dL_isTold_698 : decode cL_isTold 698 = .ok (.iinc 14 1, 3) := by decide +kernel
theorem dL_isTold_701 : decode cL_isTold 701 = .ok (.goto (-115), 3) := by decide +kernel
theorem dL_isTold_704 : decode cL_isTold 704 = .ok (.iconst 0, 1) := by decide +kernel
theorem dL_isTold_705 : decode cL_isTold 705 = .ok (.istore 14, 2) := by decide +kernel
theorem dL_isTold_707 : decode cL_isTold 707 = .ok (.iload 14, 2) := by decide +kernel
theorem dL_isTold_709 : decode cL_isTold 709 = .ok (.iconst 3, 1) := by decide +kernel
theorem dL_isTold_710 : decode cL_isTold 710 = .ok (.if_icmp .ge 18, 3) := by decide +kernel
theorem dL_isTold_713 : decode cL_isTold 713 = .ok (.aload 4, 2) := by decide +kernel
theorem dL_isTold_715 : decode cL_isTold 715 = .ok (.iload 14, 2) := by decide +kernel
theorem dL_isTold_717 : decode cL_isTold 717 = .ok (.aload_n 3, 1) := by decide +kernel
theorem dL_isTold_718 : decode cL_isTold 718 = .ok (.iload 14, 2) := by decide +kernel
theorem dL_isTold_720 : decode cL_isTold 720 = .ok (.iaload, 1) := by decide +kernel
theorem dL_isTold_721 : decode cL_isTold 721 = .ok (.iastore, 1) := by decide +kernel
theorem dL_isTold_722 : decode cL_isTold 722 = .ok (.iinc 14 1, 3) := by decide +kernel
theorem dL_isTold_725 : decode cL_isTold 725 = .ok (.goto (-18), 3) := by decide +kernel
theorem dL_isTold_728 : decode cL_isTold 728 = .ok (.iconst 0, 1) := by decide +kernel
theorem dL_isTold_729 : decode cL_isTold 729 = .ok (.istore 14, 2) := by decide +kernel
theorem dL_isTold_731 : decode cL_isTold 731 = .ok (.iload 14, 2) := by decide +kernel
theorem dL_isTold_733 : decode cL_isTold 733 = .ok (.aload 10, 2) := by decide +kernel
theorem dL_isTold_735 : decode cL_isTold 735 = .ok (.iconst 5, 1) := by decide +kernel
theorem dL_isTold_736 : decode cL_isTold 736 = .ok (.iaload, 1) := by decide +kernel
theorem dL_isTold_737 : decode cL_isTold 737 = .ok (.if_icmp .ge 54, 3) := by decide +kernel
theorem dL_isTold_740 : decode cL_isTold 740 = .ok (.aload_n 2, 1) := by decide +kernel
theorem dL_isTold_741 : decode cL_isTold 741 = .ok (.aload 5, 2) := by decide +kernel
theorem dL_isTold_743 : decode cL_isTold 743 = .ok (.aload 8, 2) := by decide +kernel
theorem dL_isTold_745 : decode cL_isTold 745 = .ok (.aload 10, 2) := by decide +kernel
theorem dL_isTold_747 : decode cL_isTold 747 = .ok (.aload 4, 2) := by decide +kernel
theorem dL_isTold_749 : decode cL_isTold 749 = .ok (.aload 7, 2) := by decide +kernel
theorem dL_isTold_751 : decode cL_isTold 751 = .ok (.iload 14, 2) := by decide +kernel
theorem dL_isTold_753 : decode cL_isTold 753 = .ok (.iaload, 1) := by decide +kernel
theorem dL_isTold_754 : decode cL_isTold 754 = .ok (.invokestatic 89, 3) := by decide +kernel
theorem dL_isTold_757 : decode cL_isTold 757 = .ok (.ifCond .ne 34, 3) := by decide +kernel
theorem dL_isTold_760 : decode cL_isTold 760 = .ok (.aload 4, 2) := by decide +kernel
theorem dL_isTold_762 : decode cL_isTold 762 = .ok (.aload 7, 2) := by decide +kernel
theorem dL_isTold_764 : decode cL_isTold 764 = .ok (.iload 14, 2) := by decide +kernel
theorem dL_isTold_766 : decode cL_isTold 766 = .ok (.iaload, 1) := by decide +kernel
theorem dL_isTold_767 : decode cL_isTold 767 = .ok (.sipush 200, 3) := by decide +kernel
theorem dL_isTold_770 : decode cL_isTold 770 = .ok (.idiv, 1) := by decide +kernel
theorem dL_isTold_771 : decode cL_isTold 771 = .ok (.dup2, 1) := by decide +kernel
theorem dL_isTold_772 : decode cL_isTold 772 = .ok (.iaload, 1) := by decide +kernel
theorem dL_isTold_773 : decode cL_isTold 773 = .ok (.iconst 1, 1) := by decide +kernel
theorem dL_isTold_774 : decode cL_isTold 774 = .ok (.aload 7, 2) := by decide +kernel
theorem dL_isTold_776 : decode cL_isTold 776 = .ok (.iload 14, 2) := by decide +kernel
theorem dL_isTold_778 : decode cL_isTold 778 = .ok (.iaload, 1) := by decide +kernel
theorem dL_isTold_779 : decode cL_isTold 779 = .ok (.bipush 100, 2) := by decide +kernel
theorem dL_isTold_781 : decode cL_isTold 781 = .ok (.irem, 1) := by decide +kernel
theorem dL_isTold_782 : decode cL_isTold 782 = .ok (.ishl, 1) := by decide +kernel
theorem dL_isTold_783 : decode cL_isTold 783 = .ok (.ixor, 1) := by decide +kernel
theorem dL_isTold_784 : decode cL_isTold 784 = .ok (.iastore, 1) := by decide +kernel
theorem dL_isTold_785 : decode cL_isTold 785 = .ok (.iinc 14 1, 3) := by decide +kernel
theorem dL_isTold_788 : decode cL_isTold 788 = .ok (.goto (-57), 3) := by decide +kernel
theorem dL_isTold_791 : decode cL_isTold 791 = .ok (.aload_n 0, 1) := by decide +kernel
theorem dL_isTold_792 : decode cL_isTold 792 = .ok (.invokevirtual 152, 3) := by decide +kernel
theorem dL_isTold_795 : decode cL_isTold 795 = .ok (.iload 14, 2) := by decide +kernel
theorem dL_isTold_797 : decode cL_isTold 797 = .ok (.if_icmp .ne 44, 3) := by decide +kernel
theorem dL_isTold_800 : decode cL_isTold 800 = .ok (.aload_n 0, 1) := by decide +kernel
theorem dL_isTold_801 : decode cL_isTold 801 = .ok (.bipush 6, 2) := by decide +kernel
theorem dL_isTold_803 : decode cL_isTold 803 = .ok (.iconst 0, 1) := by decide +kernel
theorem dL_isTold_804 : decode cL_isTold 804 = .ok (.invokestatic 93, 3) := by decide +kernel
theorem dL_isTold_807 : decode cL_isTold 807 = .ok (.bipush (-71), 2) := by decide +kernel
theorem dL_isTold_809 : decode cL_isTold 809 = .ok (.if_icmp .ne 32, 3) := by decide +kernel
theorem dL_isTold_812 : decode cL_isTold 812 = .ok (.aload_n 0, 1) := by decide +kernel
theorem dL_isTold_813 : decode cL_isTold 813 = .ok (.iconst 1, 1) := by decide +kernel
theorem dL_isTold_814 : decode cL_isTold 814 = .ok (.aload 10, 2) := by decide +kernel
theorem dL_isTold_816 : decode cL_isTold 816 = .ok (.iconst 1, 1) := by decide +kernel
theorem dL_isTold_817 : decode cL_isTold 817 = .ok (.iaload, 1) := by decide +kernel
theorem dL_isTold_818 : decode cL_isTold 818 = .ok (.invokestatic 93, 3) := by decide +kernel
theorem dL_isTold_821 : decode cL_isTold 821 = .ok (.bipush (-72), 2) := by decide +kernel
theorem dL_isTold_823 : decode cL_isTold 823 = .ok (.if_icmp .ne 18, 3) := by decide +kernel
theorem dL_isTold_826 : decode cL_isTold 826 = .ok (.aload_n 0, 1) := by decide +kernel
theorem dL_isTold_827 : decode cL_isTold 827 = .ok (.iconst 4, 1) := by decide +kernel
theorem dL_isTold_828 : decode cL_isTold 828 = .ok (.iconst (-1), 1) := by decide +kernel
theorem dL_isTold_829 : decode cL_isTold 829 = .ok (.invokestatic 93, 3) := by decide +kernel
theorem dL_isTold_832 : decode cL_isTold 832 = .ok (.bipush (-72), 2) := by decide +kernel
theorem dL_isTold_834 : decode cL_isTold 834 = .ok (.if_icmp .ne 7, 3) := by decide +kernel
theorem dL_isTold_837 : decode cL_isTold 837 = .ok (.iconst 1, 1) := by decide +kernel
theorem dL_isTold_838 : decode cL_isTold 838 = .ok (.goto 4, 3) := by decide +kernel
theorem dL_isTold_841 : decode cL_isTold 841 = .ok (.iconst 0, 1) := by decide +kernel
theorem dL_isTold_842 : decode cL_isTold 842 = .ok (.ireturn, 1) := by decide +kernel
