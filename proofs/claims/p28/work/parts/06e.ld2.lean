set_option maxRecDepth 20000 in
theorem ggL_acts_L_randomAct : GoodIn wsL_acts wsL_randomAct := goodIn_r _ [4, 5, 6, 3, 7] (by decide +kernel) (by decide +kernel)
set_option maxRecDepth 20000 in
theorem gL_acts_L_randomAct : GoodIn wsL_acts (va_wsS RL 82 yL_randomAct wsL_randomAct) := goodIn_app (goodIn_of _ (by decide +kernel)) ggL_acts_L_randomAct
set_option maxRecDepth 20000 in
theorem ggL_acts_L_act : GoodIn wsL_acts wsL_act := goodIn_ca (goodIn_ca (goodIn_ca (goodIn_r _ [10, 11, 12, 13, 14, 15, 16, 17, 18, 19, 20, 21, 22, 23, 24, 25, 26, 27, 28, 29, 30, 31, 32, 33, 34, 35, 36, 37, 38, 39, 40, 41, 42, 43, 44, 45, 46, 47, 48, 49, 50, 51, 52, 53, 54, 55, 56, 57, 58, 59, 60, 61, 62, 63, 64, 65, 66, 67, 68, 69, 70, 71, 72, 73, 74, 75, 76, 77, 78, 79, 80, 81, 82, 83, 84, 85, 86, 87, 88, 89, 90, 91, 92, 93, 94, 95, 96, 97, 98, 99, 100, 101, 102, 103, 104, 105, 106, 107, 108, 109, 110, 111, 112, 113, 114, 115, 116, 117, 118, 119, 120, 121, 122, 123, 124, 125, 126, 127, 128, 129, 130, 131, 132, 133, 134, 135, 136, 137, 138, 139, 140, 141, 142, 143, 144, 145, 146, 147, 148, 149, 150, 151, 152, 153, 154, 155, 156, 157, 158, 159, 160, 161, 162, 163, 164, 292, 293, 294, 295, 296, 297, 298, 299, 300, 301, 302, 303, 304, 305, 306, 307, 308, 309, 310, 311] (by decide +kernel) (by decide +kernel)) (goodIn_sub (fun _ h => List.mem_cons_of_mem _ (List.mem_append_left _ (List.mem_append_left _ (List.mem_append_right _ h)))) (by decide +kernel))) (goodIn_sub (fun _ h => List.mem_cons_of_mem _ (List.mem_append_left _ (List.mem_append_right _ h))) (by decide +kernel))) (goodIn_sub (fun _ h => List.mem_cons_of_mem _ (List.mem_append_right _ h)) (by decide +kernel))
set_option maxRecDepth 20000 in
theorem gL_acts_L_act : GoodIn wsL_acts (va_wsS RL 86 yL_act wsL_act) := goodIn_app (goodIn_of _ (by decide +kernel)) ggL_acts_L_act
set_option maxRecDepth 20000 in
theorem ggL_acts_L_why : GoodIn wsL_acts wsL_why := goodIn_r _ [167, 168, 169, 3, 170, 171, 172, 173, 174, 175, 176] (by decide +kernel) (by decide +kernel)
set_option maxRecDepth 20000 in
theorem gL_acts_L_why : GoodIn wsL_acts (va_wsS RL 89 yL_why wsL_why) := goodIn_app (goodIn_of _ (by decide +kernel)) ggL_acts_L_why
set_option maxRecDepth 20000 in
theorem ggL_acts_L_reason : GoodIn wsL_acts wsL_reason := goodIn_ca (goodIn_ca (goodIn_r _ [179, 11, 12, 180, 181, 182, 16, 183, 57, 21, 22, 23, 24, 25, 26, 27, 28, 29, 30, 31, 32, 33, 34, 35, 36, 37, 38, 39, 40, 41, 42, 43, 64, 65, 66, 67, 68, 69, 70, 71, 72, 73, 74, 75, 76, 77, 78, 79, 80, 81, 82, 83, 84, 85, 86, 87, 88, 89, 90, 91, 92, 93, 94, 95, 96, 97, 98, 99, 100, 101, 102, 103, 104, 105, 106, 107, 108, 109, 110, 111, 112, 113, 114, 115, 116, 117, 118, 119, 120, 121, 122, 123, 124, 125, 126, 127, 128, 129, 130, 131, 132, 133, 134, 135, 136, 137, 138, 139, 140, 141, 142, 143, 144, 145, 146, 147, 148, 149, 150, 151, 152, 153, 154, 155, 156, 157, 158, 159, 292, 293, 294, 295, 296, 297, 298, 299, 300, 301, 302, 303, 304, 307, 308, 309, 310, 311] (by decide +kernel) (by decide +kernel)) (goodIn_sub (fun _ h => List.mem_cons_of_mem _ (List.mem_append_left _ (List.mem_append_right _ h))) (by decide +kernel))) (goodIn_sub (fun _ h => List.mem_cons_of_mem _ (List.mem_append_right _ h)) (by decide +kernel))
set_option maxRecDepth 20000 in
theorem gL_acts_L_reason : GoodIn wsL_acts (va_wsS RL 93 yL_reason wsL_reason) := goodIn_app (goodIn_of _ (by decide +kernel)) ggL_acts_L_reason
set_option maxRecDepth 20000 in
theorem ggL_acts_L_takeBack : GoodIn wsL_acts wsL_takeBack := goodIn_ca (goodIn_r _ [186, 187, 188, 189, 190, 16, 191, 18, 19, 20, 57, 44, 45, 46, 47, 48, 49, 192, 193, 194, 195, 164, 196, 197, 198, 58, 59, 60, 61, 62, 63, 50, 51, 52, 64, 65, 66, 67, 68, 69, 70, 71, 72, 73, 29, 74, 75, 76, 36, 77, 78, 79, 80, 81, 82, 83, 84, 85, 86, 87, 88, 89, 90, 91, 92, 93, 30, 31, 32, 94, 95, 96, 97, 98, 99, 100, 101, 102, 103, 104, 105, 106, 107, 108, 109, 110, 111, 112, 113, 114, 115, 116, 117, 118, 119, 120, 121, 122, 123, 124, 125, 126, 127, 128, 129, 130, 131, 132, 133, 134, 135, 43, 38, 136, 137, 138, 139, 140, 141, 142, 143, 144, 145, 146, 147, 148, 149, 150, 151, 152, 153, 154, 155, 156, 157, 158, 159, 199, 200, 201, 202, 292, 293, 294, 295, 296, 297, 298, 305, 306, 299, 300, 301, 302, 303, 304, 307, 308, 309, 310, 311] (by decide +kernel) (by decide +kernel)) (goodIn_sub (fun _ h => List.mem_cons_of_mem _ (List.mem_append_left _ (List.mem_append_left _ (List.mem_append_right _ h)))) (by decide +kernel))
set_option maxRecDepth 20000 in
theorem gL_acts_L_takeBack : GoodIn wsL_acts (va_wsS RL 95 yL_takeBack wsL_takeBack) := goodIn_app (goodIn_of _ (by decide +kernel)) ggL_acts_L_takeBack
set_option maxRecDepth 20000 in
theorem ggL_acts_L_opposite : GoodIn wsL_acts wsL_opposite := goodIn_r _ [205] (by decide +kernel) (by decide +kernel)
set_option maxRecDepth 20000 in
theorem gL_acts_L_opposite : GoodIn wsL_acts (va_wsS RL 98 yL_opposite wsL_opposite) := goodIn_app (goodIn_of _ (by decide +kernel)) ggL_acts_L_opposite
set_option maxRecDepth 20000 in
theorem ggL_acts_L_write : GoodIn wsL_acts wsL_write := goodIn_ca (goodIn_ca (goodIn_ca (goodIn_r _ [208, 11, 12, 187, 209, 210, 211, 16, 212, 18, 19, 213, 21, 22, 23, 24, 25, 26, 27, 28, 29, 30, 31, 32, 33, 34, 35, 36, 37, 38, 39, 40, 41, 42, 43, 44, 45, 46, 47, 48, 49, 50, 51, 52, 160, 161, 162, 163, 164, 292, 293, 294, 295, 296, 297, 298, 299, 300, 301, 302, 303, 304, 305, 306] (by decide +kernel) (by decide +kernel)) (goodIn_sub (fun _ h => List.mem_cons_of_mem _ (List.mem_append_left _ (List.mem_append_left _ (List.mem_append_right _ h)))) (by decide +kernel))) (goodIn_sub (fun _ h => List.mem_cons_of_mem _ (List.mem_append_left _ (List.mem_append_right _ h))) (by decide +kernel))) (goodIn_sub (fun _ h => List.mem_cons_of_mem _ (List.mem_append_right _ h)) (by decide +kernel))
set_option maxRecDepth 20000 in
theorem gL_acts_L_write : GoodIn wsL_acts (va_wsS RL 101 yL_write wsL_write) := goodIn_app (goodIn_of _ (by decide +kernel)) ggL_acts_L_write
set_option maxRecDepth 20000 in
theorem ggL_acts_X4_erase : GoodIn wsL_acts wsX4_erase := goodIn_r _ [217, 213, 44, 45, 46, 47, 48, 49, 218, 219, 220, 221, 164, 292, 293, 294, 295, 296, 297, 298, 305, 306] (by decide +kernel) (by decide +kernel)
set_option maxRecDepth 20000 in
theorem gL_acts_X4_erase : GoodIn wsL_acts (wsV RL 103 RX4 yX4_erase wsX4_erase) := goodIn_app (goodIn_of _ (by decide +kernel)) ggL_acts_X4_erase
set_option maxRecDepth 20000 in
theorem ggL_acts_X4_writeBack : GoodIn wsL_acts wsX4_writeBack := goodIn_r _ [225, 20, 226, 227, 228, 229, 213, 44, 45, 46, 47, 48, 49, 218, 219, 220, 221, 164, 192, 193, 194, 195, 196, 197, 16, 198, 58, 59, 60, 61, 62, 63, 50, 51, 52, 160, 161, 162, 163, 292, 293, 294, 295, 296, 297, 298, 305, 306] (by decide +kernel) (by decide +kernel)
set_option maxRecDepth 20000 in
theorem gL_acts_X4_writeBack : GoodIn wsL_acts (wsV RL 106 RX4 yX4_writeBack wsX4_writeBack) := goodIn_app (goodIn_of _ (by decide +kernel)) ggL_acts_X4_writeBack
set_option maxRecDepth 20000 in
theorem ggL_acts_L_low : GoodIn wsL_acts wsL_low := goodIn_r _ [7] (by decide +kernel) (by decide +kernel)
set_option maxRecDepth 20000 in
theorem gL_acts_L_low : GoodIn wsL_acts (va_wsS RL 73 yL_low wsL_low) := goodIn_app (goodIn_of _ (by decide +kernel)) ggL_acts_L_low
set_option maxRecDepth 20000 in
theorem ggL_acts_L_carryOut : GoodIn wsL_acts wsL_carryOut := goodIn_ca (goodIn_ca (goodIn_r _ [232, 11, 187, 233, 234, 235, 16, 236, 25, 26, 18, 19, 213, 226, 227, 228, 229, 20, 44, 45, 46, 47, 48, 49, 237, 238, 239, 240, 164, 53, 54, 55, 56, 57, 58, 59, 60, 61, 62, 63, 64, 65, 66, 67, 68, 69, 70, 71, 72, 73, 29, 74, 75, 76, 36, 77, 78, 79, 80, 81, 82, 83, 84, 85, 86, 87, 88, 89, 90, 91, 92, 93, 30, 31, 32, 94, 95, 96, 97, 98, 99, 100, 101, 102, 103, 104, 105, 106, 107, 108, 109, 110, 111, 112, 113, 114, 115, 116, 117, 118, 119, 120, 121, 122, 123, 124, 125, 126, 127, 128, 129, 130, 131, 132, 133, 134, 135, 43, 38, 136, 137, 138, 139, 140, 141, 142, 143, 144, 145, 146, 147, 148, 149, 150, 151, 152, 153, 154, 155, 156, 157, 158, 159, 160, 161, 162, 163, 218, 219, 220, 221, 292, 293, 294, 295, 296, 297, 298, 305, 306, 299, 300, 301, 302, 303, 304, 307, 308, 309, 310, 311] (by decide +kernel) (by decide +kernel)) (goodIn_sub (fun _ h => List.mem_cons_of_mem _ (List.mem_append_left _ (List.mem_append_right _ h))) (by decide +kernel))) (goodIn_sub (fun _ h => List.mem_cons_of_mem _ (List.mem_append_left _ (List.mem_append_left _ (List.mem_append_right _ h)))) (by decide +kernel))
set_option maxRecDepth 20000 in
theorem gL_acts_L_carryOut : GoodIn wsL_acts (va_wsS RL 109 yL_carryOut wsL_carryOut) := goodIn_app (goodIn_of _ (by decide +kernel)) ggL_acts_L_carryOut
set_option maxRecDepth 20000 in
theorem ggL_acts_X4_log : GoodIn wsL_acts wsX4_log := goodIn_r _ [244, 20, 44, 45, 46, 47, 48, 49, 292, 293, 294, 295, 296, 297, 298, 305, 306] (by decide +kernel) (by decide +kernel)
set_option maxRecDepth 20000 in
theorem gL_acts_X4_log : GoodIn wsL_acts (wsV RL 112 RX4 yX4_log wsX4_log) := goodIn_app (goodIn_of _ (by decide +kernel)) ggL_acts_X4_log
set_option maxRecDepth 20000 in
theorem ggL_acts_L_lay : GoodIn wsL_acts wsL_lay := goodIn_r _ [173] (by decide +kernel) (by decide +kernel)
set_option maxRecDepth 20000 in
theorem gL_acts_L_lay : GoodIn wsL_acts (va_wsS RL 65 yL_lay wsL_lay) := goodIn_app (goodIn_of _ (by decide +kernel)) ggL_acts_L_lay
set_option maxRecDepth 20000 in
theorem ggL_acts_L_with : GoodIn wsL_acts wsL_with := goodIn_r _ [176] (by decide +kernel) (by decide +kernel)
set_option maxRecDepth 20000 in
theorem gL_acts_L_with : GoodIn wsL_acts (va_wsS RL 69 yL_with wsL_with) := goodIn_app (goodIn_of _ (by decide +kernel)) ggL_acts_L_with
set_option maxRecDepth 20000 in
theorem ggL_acts_L_held : GoodIn wsL_acts wsL_held := goodIn_r _ [170] (by decide +kernel) (by decide +kernel)
set_option maxRecDepth 20000 in
theorem gL_acts_L_held : GoodIn wsL_acts (va_wsS RL 59 yL_held wsL_held) := goodIn_app (goodIn_of _ (by decide +kernel)) ggL_acts_L_held
set_option maxRecDepth 20000 in
theorem ggL_acts_L_permit : GoodIn wsL_acts wsL_permit := goodIn_ca (goodIn_ca (goodIn_r _ [247, 11, 187, 248, 249, 250, 16, 251, 25, 26, 18, 19, 29, 68, 252, 253, 254, 36, 255, 43, 256, 257, 258, 259, 57, 156, 157, 158, 159, 148, 149, 150, 151, 132, 133, 134, 135, 38, 98, 144, 145, 146, 147, 99, 100, 101, 102, 103, 104, 105, 260, 261, 262, 263, 264, 265, 266, 267, 292, 293, 294, 295, 296, 297, 298, 299, 300, 301, 302, 303, 304, 307, 308, 309, 310, 311] (by decide +kernel) (by decide +kernel)) (goodIn_sub (fun _ h => List.mem_cons_of_mem _ (List.mem_append_left _ (List.mem_append_right _ h))) (by decide +kernel))) (goodIn_sub (fun _ h => List.mem_cons_of_mem _ (List.mem_append_left _ (List.mem_append_left _ (List.mem_append_right _ h)))) (by decide +kernel))
set_option maxRecDepth 20000 in
theorem gL_acts_L_permit : GoodIn wsL_acts (va_wsS RL 115 yL_permit wsL_permit) := goodIn_app (goodIn_of _ (by decide +kernel)) ggL_acts_L_permit
set_option maxRecDepth 20000 in
theorem ggL_acts_X4_held : GoodIn wsL_acts wsX4_held := goodIn_r _ [271, 68, 99, 100, 101, 102, 103, 104, 105, 292, 293, 294, 295, 296, 297, 298, 310, 311] (by decide +kernel) (by decide +kernel)
set_option maxRecDepth 20000 in
theorem gL_acts_X4_held : GoodIn wsL_acts (wsV RL 117 RX4 yX4_held wsX4_held) := goodIn_app (goodIn_of _ (by decide +kernel)) ggL_acts_X4_held
set_option maxRecDepth 20000 in
theorem ggL_acts_L_handBack : GoodIn wsL_acts wsL_handBack := goodIn_ca (goodIn_ca (goodIn_r _ [274, 12, 187, 275, 276, 277, 16, 278, 27, 28, 18, 19, 68, 260, 261, 262, 102, 263, 104, 279, 280, 281, 282, 105, 283, 284, 285, 286, 287, 288, 289, 290, 291, 292, 293, 294, 295, 296, 297, 298, 310, 311] (by decide +kernel) (by decide +kernel)) (goodIn_sub (fun _ h => List.mem_cons_of_mem _ (List.mem_append_right _ h)) (by decide +kernel))) (goodIn_sub (fun _ h => List.mem_cons_of_mem _ (List.mem_append_left _ (List.mem_append_left _ (List.mem_append_right _ h)))) (by decide +kernel))
set_option maxRecDepth 20000 in
theorem gL_acts_L_handBack : GoodIn wsL_acts (va_wsS RL 119 yL_handBack wsL_handBack) := goodIn_app (goodIn_of _ (by decide +kernel)) ggL_acts_L_handBack
theorem dL_acts_0 : decode cL_acts 0 = .ok (.iload_n 2, 1) := by decide +kernel
theorem dL_acts_1 : decode cL_acts 1 = .ok (.aload 10, 2) := by decide +kernel
theorem dL_acts_3 : decode cL_acts 3 = .ok (.invokestatic 82, 3) := by decide +kernel
theorem dL_acts_6 : decode cL_acts 6 = .ok (.istore 11, 2) := by decide +kernel
theorem dL_acts_8 : decode cL_acts 8 = .ok (.iload_n 1, 1) := by decide +kernel
theorem dL_acts_9 : decode cL_acts 9 = .ok (.bipush 8, 2) := by decide +kernel
theorem dL_acts_11 : decode cL_acts 11 = .ok (.if_icmp .ge 188, 3) := by decide +kernel
theorem dL_acts_14 : decode cL_acts 14 = .ok (.aload_n 0, 1) := by decide +kernel
theorem dL_acts_15 : decode cL_acts 15 = .ok (.bipush 6, 2) := by decide +kernel
theorem dL_acts_17 : decode cL_acts 17 = .ok (.iconst 0, 1) := by decide +kernel
theorem dL_acts_18 : decode cL_acts 18 = .ok (.invokestatic 86, 3) := by decide +kernel
theorem dL_acts_21 : decode cL_acts 21 = .ok (.bipush (-71), 2) := by decide +kernel
theorem dL_acts_23 : decode cL_acts 23 = .ok (.if_icmp .ne 54, 3) := by decide +kernel
theorem dL_acts_26 : decode cL_acts 26 = .ok (.aload_n 0, 1) := by decide +kernel
theorem dL_acts_27 : decode cL_acts 27 = .ok (.iconst (-1), 1) := by decide +kernel
theorem dL_acts_28 : decode cL_acts 28 = .ok (.bipush 99, 2) := by decide +kernel
theorem dL_acts_30 : decode cL_acts 30 = .ok (.invokestatic 86, 3) := by decide +kernel
theorem dL_acts_33 : decode cL_acts 33 = .ok (.bipush (-71), 2) := by decide +kernel
theorem dL_acts_35 : decode cL_acts 35 = .ok (.if_icmp .ne 42, 3) := by decide +kernel
theorem dL_acts_38 : decode cL_acts 38 = .ok (.aload_n 0, 1) := by decide +kernel
theorem dL_acts_39 : decode cL_acts 39 = .ok (.iconst 0, 1) := by decide +kernel
theorem dL_acts_40 : decode cL_acts 40 = .ok (.aload 10, 2) := by decide +kernel
theorem dL_acts_42 : decode cL_acts 42 = .ok (.iconst 1, 1) := by decide +kernel
theorem dL_acts_43 : decode cL_acts 43 = .ok (.iaload, 1) := by decide +kernel
theorem dL_acts_44 : decode cL_acts 44 = .ok (.invokestatic 86, 3) := by decide +kernel
theorem dL_acts_47 : decode cL_acts 47 = .ok (.bipush (-72), 2) := by decide +kernel
theorem dL_acts_49 : decode cL_acts 49 = .ok (.if_icmp .ne 28, 3) := by decide +kernel
theorem dL_acts_52 : decode cL_acts 52 = .ok (.aload_n 0, 1) := by decide +kernel
theorem dL_acts_53 : decode cL_acts 53 = .ok (.iconst 5, 1) := by decide +kernel
theorem dL_acts_54 : decode cL_acts 54 = .ok (.aload 10, 2) := by decide +kernel
theorem dL_acts_56 : decode cL_acts 56 = .ok (.iconst 0, 1) := by decide +kernel
theorem dL_acts_57 : decode cL_acts 57 = .ok (.iaload, 1) := by decide +kernel
theorem dL_acts_58 : decode cL_acts 58 = .ok (.invokestatic 86, 3) := by decide +kernel
theorem dL_acts_61 : decode cL_acts 61 = .ok (.bipush (-72), 2) := by decide +kernel
theorem dL_acts_63 : decode cL_acts 63 = .ok (.if_icmp .ne 14, 3) := by decide +kernel
theorem dL_acts_66 : decode cL_acts 66 = .ok (.aload_n 0, 1) := by decide +kernel
theorem dL_acts_67 : decode cL_acts 67 = .ok (.iconst 2, 1) := by decide +kernel
theorem dL_acts_68 : decode cL_acts 68 = .ok (.iconst (-1), 1) := by decide +kernel
theorem dL_acts_69 : decode cL_acts 69 = .ok (.invokestatic 86, 3) := by decide +kernel
theorem dL_acts_72 : decode cL_acts 72 = .ok (.bipush (-72), 2) := by decide +kernel
theorem dL_acts_74 : decode cL_acts 74 = .ok (.if_icmp .eq 5, 3) := by decide +kernel
theorem dL_acts_77 : decode cL_acts 77 = .ok (.iconst 0, 1) := by decide +kernel
theorem dL_acts_78 : decode cL_acts 78 = .ok (.ireturn, 1) := by decide +kernel
theorem dL_acts_79 : decode cL_acts 79 = .ok (.aload 4, 2) := by decide +kernel
theorem dL_acts_81 : decode cL_acts 81 = .ok (.aload 6, 2) := by decide +kernel
theorem dL_acts_83 : decode cL_acts 83 = .ok (.aload 9, 2) := by decide +kernel
theorem dL_acts_85 : decode cL_acts 85 = .ok (.aload 10, 2) := by decide +kernel
theorem dL_acts_87 : decode cL_acts 87 = .ok (.aload 5, 2) := by decide +kernel
theorem dL_acts_89 : decode cL_acts 89 = .ok (.iload 11, 2) := by decide +kernel
theorem dL_acts_91 : decode cL_acts 91 = .ok (.invokestatic 89, 3) := by decide +kernel
theorem dL_acts_94 : decode cL_acts 94 = .ok (.istore 12, 2) := by decide +kernel
theorem dL_acts_96 : decode cL_acts 96 = .ok (.iload 12, 2) := by decide +kernel
theorem dL_acts_98 : decode cL_acts 98 = .ok (.ifCond .ne 35, 3) := by decide +kernel
theorem dL_acts_101 : decode cL_acts 101 = .ok (.aload 10, 2) := by decide +kernel
theorem dL_acts_103 : decode cL_acts 103 = .ok (.iconst 4, 1) := by decide +kernel
theorem dL_acts_104 : decode cL_acts 104 = .ok (.iaload, 1) := by decide +kernel
theorem dL_acts_105 : decode cL_acts 105 = .ok (.bipush 60, 2) := by decide +kernel
theorem dL_acts_107 : decode cL_acts 107 = .ok (.if_icmp .ne 26, 3) := by decide +kernel
theorem dL_acts_110 : decode cL_acts 110 = .ok (.aload_n 0, 1) := by decide +kernel
theorem dL_acts_111 : decode cL_acts 111 = .ok (.iload 11, 2) := by decide +kernel
theorem dL_acts_113 : decode cL_acts 113 = .ok (.bipush 100, 2) := by decide +kernel
theorem dL_acts_115 : decode cL_acts 115 = .ok (.idiv, 1) := by decide +kernel
theorem dL_acts_116 : decode cL_acts 116 = .ok (.iload 11, 2) := by decide +kernel
theorem dL_acts_118 : decode cL_acts 118 = .ok (.bipush 100, 2) := by decide +kernel
theorem dL_acts_120 : decode cL_acts 120 = .ok (.irem, 1) := by decide +kernel
theorem dL_acts_121 : decode cL_acts 121 = .ok (.invokestatic 93, 3) := by decide +kernel
theorem dL_acts_124 : decode cL_acts 124 = .ok (.ifCond .ne 7, 3) := by decide +kernel
theorem dL_acts_127 : decode cL_acts 127 = .ok (.iconst 1, 1) := by decide +kernel
theorem dL_acts_128 : decode cL_acts 128 = .ok (.goto 4, 3) := by decide +kernel
theorem dL_acts_131 : decode cL_acts 131 = .ok (.iconst 0, 1) := by decide +kernel
theorem dL_acts_132 : decode cL_acts 132 = .ok (.ireturn, 1) := by decide +kernel
theorem dL_acts_133 : decode cL_acts 133 = .ok (.iload 12, 2) := by decide +kernel
theorem dL_acts_135 : decode cL_acts 135 = .ok (.ifCond .ne 39, 3) := by decide +kernel
theorem dL_acts_138 : decode cL_acts 138 = .ok (.aload 5, 2) := by decide +kernel
theorem dL_acts_140 : decode cL_acts 140 = .ok (.iload 11, 2) := by decide +kernel
theorem dL_acts_142 : decode cL_acts 142 = .ok (.sipush 200, 3) := by decide +kernel
theorem dL_acts_145 : decode cL_acts 145 = .ok (.idiv, 1) := by decide +kernel
theorem dL_acts_146 : decode cL_acts 146 = .ok (.dup2, 1) := by decide +kernel
theorem dL_acts_147 : decode cL_acts 147 = .ok (.iaload, 1) := by decide +kernel
theorem dL_acts_148 : decode cL_acts 148 = .ok (.iconst 1, 1) := by decide +kernel
theorem dL_acts_149 : decode cL_acts 149 = .ok (.iload 11, 2) := by decide +kernel
theorem dL_acts_151 : decode cL_acts 151 = .ok (.bipush 100, 2) := by decide +kernel
theorem dL_acts_153 : decode cL_acts 153 = .ok (.irem, 1) := by decide +kernel
theorem dL_acts_154 : decode cL_acts 154 = .ok (.ishl, 1) := by decide +kernel
theorem dL_acts_155 : decode cL_acts 155 = .ok (.ixor, 1) := by decide +kernel
theorem dL_acts_156 : decode cL_acts 156 = .ok (.iastore, 1) := by decide +kernel
theorem dL_acts_157 : decode cL_acts 157 = .ok (.aload 7, 2) := by decide +kernel
theorem dL_acts_159 : decode cL_acts 159 = .ok (.aload 10, 2) := by decide +kernel
theorem dL_acts_161 : decode cL_acts 161 = .ok (.iconst 4, 1) := by decide +kernel
theorem dL_acts_162 : decode cL_acts 162 = .ok (.iaload, 1) := by decide +kernel
theorem dL_acts_163 : decode cL_acts 163 = .ok (.iload 11, 2) := by decide +kernel
theorem dL_acts_165 : decode cL_acts 165 = .ok (.iastore, 1) := by decide +kernel
theorem dL_acts_166 : decode cL_acts 166 = .ok (.aload 10, 2) := by decide +kernel
theorem dL_acts_168 : decode cL_acts 168 = .ok (.iconst 4, 1) := by decide +kernel
theorem dL_acts_169 : decode cL_acts 169 = .ok (.dup2, 1) := by decide +kernel
theorem dL_acts_170 : decode cL_acts 170 = .ok (.iaload, 1) := by decide +kernel
theorem dL_acts_171 : decode cL_acts 171 = .ok (.iconst 1, 1) := by decide +kernel
theorem dL_acts_172 : decode cL_acts 172 = .ok (.iadd, 1) := by decide +kernel
theorem dL_acts_173 : decode cL_acts 173 = .ok (.iastore, 1) := by decide +kernel
theorem dL_acts_174 : decode cL_acts 174 = .ok (.aload_n 0, 1) := by decide +kernel
theorem dL_acts_175 : decode cL_acts 175 = .ok (.iload 11, 2) := by decide +kernel
theorem dL_acts_177 : decode cL_acts 177 = .ok (.bipush 100, 2) := by decide +kernel
theorem dL_acts_179 : decode cL_acts 179 = .ok (.idiv, 1) := by decide +kernel
theorem dL_acts_180 : decode cL_acts 180 = .ok (.iload 11, 2) := by decide +kernel
theorem dL_acts_182 : decode cL_acts 182 = .ok (.bipush 100, 2) := by decide +kernel
theorem dL_acts_184 : decode cL_acts 184 = .ok (.irem, 1) := by decide +kernel
theorem dL_acts_185 : decode cL_acts 185 = .ok (.invokestatic 86, 3) := by decide +kernel
theorem dL_acts_188 : decode cL_acts 188 = .ok (.iload 12, 2) := by decide +kernel
theorem dL_acts_190 : decode cL_acts 190 = .ok (.if_icmp .ne 7, 3) := by decide +kernel
theorem dL_acts_193 : decode cL_acts 193 = .ok (.iconst 1, 1) := by decide +kernel
theorem dL_acts_194 : decode cL_acts 194 = .ok (.goto 4, 3) := by decide +kernel
theorem dL_acts_197 : decode cL_acts 197 = .ok (.iconst 0, 1) := by decide +kernel
theorem dL_acts_198 : decode cL_acts 198 = .ok (.ireturn, 1) := by decide +kernel
theorem dL_acts_199 : decode cL_acts 199 = .ok (.iload_n 1, 1) := by decide +kernel
theorem dL_acts_200 : decode cL_acts 200 = .ok (.bipush 10, 2) := by decide +kernel
theorem dL_acts_202 : decode cL_acts 202 = .ok (.if_icmp .ge 103, 3) := by decide +kernel
theorem dL_acts_205 : decode cL_acts 205 = .ok (.aload 10, 2) := by decide +kernel
theorem dL_acts_207 : decode cL_acts 207 = .ok (.iconst 4, 1) := by decide +kernel
theorem dL_acts_208 : decode cL_acts 208 = .ok (.iaload, 1) := by decide +kernel
theorem dL_acts_209 : decode cL_acts 209 = .ok (.ifCond .ne 18, 3) := by decide +kernel
theorem dL_acts_212 : decode cL_acts 212 = .ok (.aload_n 0, 1) := by decide +kernel
theorem dL_acts_213 : decode cL_acts 213 = .ok (.invokestatic 95, 3) := by decide +kernel
theorem dL_acts_216 : decode cL_acts 216 = .ok (.bipush (-73), 2) := by decide +kernel
theorem dL_acts_218 : decode cL_acts 218 = .ok (.if_icmp .ne 7, 3) := by decide +kernel
theorem dL_acts_221 : decode cL_acts 221 = .ok (.iconst 1, 1) := by decide +kernel
theorem dL_acts_222 : decode cL_acts 222 = .ok (.goto 4, 3) := by decide +kernel
theorem dL_acts_225 : decode cL_acts 225 = .ok (.iconst 0, 1) := by decide +kernel
theorem dL_acts_226 : decode cL_acts 226 = .ok (.ireturn, 1) := by decide +kernel
theorem dL_acts_227 : decode cL_acts 227 = .ok (.aload 7, 2) := by decide +kernel
theorem dL_acts_229 : decode cL_acts 229 = .ok (.aload 10, 2) := by decide +kernel
theorem dL_acts_231 : decode cL_acts 231 = .ok (.iconst 4, 1) := by decide +kernel
theorem dL_acts_232 : decode cL_acts 232 = .ok (.iaload, 1) := by decide +kernel
theorem dL_acts_233 : decode cL_acts 233 = .ok (.iconst 1, 1) := by decide +kernel
theorem dL_acts_234 : decode cL_acts 234 = .ok (.isub, 1) := by decide +kernel
theorem dL_acts_235 : decode cL_acts 235 = .ok (.iaload, 1) := by decide +kernel
theorem dL_acts_236 : decode cL_acts 236 = .ok (.invokestatic 98, 3) := by decide +kernel
theorem dL_acts_239 : decode cL_acts 239 = .ok (.istore 12, 2) := by decide +kernel
theorem dL_acts_241 : decode cL_acts 241 = .ok (.aload 4, 2) := by decide +kernel
theorem dL_acts_243 : decode cL_acts 243 = .ok (.aload 6, 2) := by decide +kernel
theorem dL_acts_245 : decode cL_acts 245 = .ok (.aload 9, 2) := by decide +kernel
theorem dL_acts_247 : decode cL_acts 247 = .ok (.aload 10, 2) := by decide +kernel
theorem dL_acts_249 : decode cL_acts 249 = .ok (.aload 5, 2) := by decide +kernel
theorem dL_acts_251 : decode cL_acts 251 = .ok (.iload 12, 2) := by decide +kernel
theorem dL_acts_253 : decode cL_acts 253 = .ok (.invokestatic 89, 3) := by decide +kernel
theorem dL_acts_256 : decode cL_acts 256 = .ok (.istore 13, 2) := by decide +kernel
theorem dL_acts_258 : decode cL_acts 258 = .ok (.iload 13, 2) := by decide +kernel
theorem dL_acts_260 : decode cL_acts 260 = .ok (.ifCond .ne 30, 3) := by decide +kernel
theorem dL_acts_263 : decode cL_acts 263 = .ok (.aload 5, 2) := by decide +kernel
theorem dL_acts_265 : decode cL_acts 265 = .ok (.iload 12, 2) := by decide +kernel
theorem dL_acts_267 : decode cL_acts 267 = .ok (.sipush 200, 3) := by decide +kernel
theorem dL_acts_270 : decode cL_acts 270 = .ok (.idiv, 1) := by decide +kernel
theorem dL_acts_271 : decode cL_acts 271 = .ok (.dup2, 1) := by decide +kernel
theorem dL_acts_272 : decode cL_acts 272 = .ok (.iaload, 1) := by decide +kernel
theorem dL_acts_273 : decode cL_acts 273 = .ok (.iconst 1, 1) := by decide +kernel
theorem dL_acts_274 : decode cL_acts 274 = .ok (.iload 12, 2) := by decide +kernel
theorem dL_acts_276 : decode cL_acts 276 = .ok (.bipush 100, 2) := by decide +kernel
theorem dL_acts_278 : decode cL_acts 278 = .ok (.irem, 1) := by decide +kernel
theorem dL_acts_279 : decode cL_acts 279 = .ok (.ishl, 1) := by decide +kernel
theorem dL_acts_280 : decode cL_acts 280 = .ok (.ixor, 1) := by decide +kernel
theorem dL_acts_281 : decode cL_acts 281 = .ok (.iastore, 1) := by decide +kernel
theorem dL_acts_282 : decode cL_acts 282 = .ok (.aload 10, 2) := by decide +kernel
theorem dL_acts_284 : decode cL_acts 284 = .ok (.iconst 4, 1) := by decide +kernel
theorem dL_acts_285 : decode cL_acts 285 = .ok (.dup2, 1) := by decide +kernel
theorem dL_acts_286 : decode cL_acts 286 = .ok (.iaload, 1) := by decide +kernel
theorem dL_acts_287 : decode cL_acts 287 = .ok (.iconst 1, 1) := by decide +kernel
theorem dL_acts_288 : decode cL_acts 288 = .ok (.isub, 1) := by decide +kernel
theorem dL_acts_289 : decode cL_acts 289 = .ok (.iastore, 1) := by decide +kernel
theorem dL_acts_290 : decode cL_acts 290 = .ok (.aload_n 0, 1) := by decide +kernel
theorem dL_acts_291 : decode cL_acts 291 = .ok (.invokestatic 95, 3) := by decide +kernel
theorem dL_acts_294 : decode cL_acts 294 = .ok (.iload 13, 2) := by decide +kernel
theorem dL_acts_296 : decode cL_acts 296 = .ok (.if_icmp .ne 7, 3) := by decide +kernel
theorem dL_acts_299 : decode cL_acts 299 = .ok (.iconst 1, 1) := by decide +kernel
theorem dL_acts_300 : decode cL_acts 300 = .ok (.goto 4, 3) := by decide +kernel
theorem dL_acts_303 : decode cL_acts 303 = .ok (.iconst 0, 1) := by decide +kernel
theorem dL_acts_304 : decode cL_acts 304 = .ok (.ireturn, 1) := by decide +kernel
theorem dL_acts_305 : decode cL_acts 305 = .ok (.iload_n 1, 1) := by decide +kernel
theorem dL_acts_306 : decode cL_acts 306 = .ok (.bipush 14, 2) := by decide +kernel
theorem dL_acts_308 : decode cL_acts 308 = .ok (.if_icmp .ge 123, 3) := by decide +kernel
theorem dL_acts_311 : decode cL_acts 311 = .ok (.aload_n 0, 1) := by decide +kernel
theorem dL_acts_312 : decode cL_acts 312 = .ok (.bipush 6, 2) := by decide +kernel
theorem dL_acts_314 : decode cL_acts 314 = .ok (.iconst 0, 1) := by decide +kernel
theorem dL_acts_315 : decode cL_acts 315 = .ok (.invokestatic 101, 3) := by decide +kernel
theorem dL_acts_318 : decode cL_acts 318 = .ok (.bipush (-71), 2) := by decide +kernel
theorem dL_acts_320 : decode cL_acts 320 = .ok (.if_icmp .ne 31, 3) := by decide +kernel
theorem dL_acts_323 : decode cL_acts 323 = .ok (.aload_n 0, 1) := by decide +kernel
theorem dL_acts_324 : decode cL_acts 324 = .ok (.iconst 1, 1) := by decide +kernel
theorem dL_acts_325 : decode cL_acts 325 = .ok (.aload 10, 2) := by decide +kernel
theorem dL_acts_327 : decode cL_acts 327 = .ok (.iconst 1, 1) := by decide +kernel
theorem dL_acts_328 : decode cL_acts 328 = .ok (.iaload, 1) := by decide +kernel
theorem dL_acts_329 : decode cL_acts 329 = .ok (.invokestatic 101, 3) := by decide +kernel
theorem dL_acts_332 : decode cL_acts 332 = .ok (.bipush (-72), 2) := by decide +kernel
theorem dL_acts_334 : decode cL_acts 334 = .ok (.if_icmp .ne 17, 3) := by decide +kernel
theorem dL_acts_337 : decode cL_acts 337 = .ok (.aload_n 0, 1) := by decide +kernel
theorem dL_acts_338 : decode cL_acts 338 = .ok (.iconst 3, 1) := by decide +kernel
theorem dL_acts_339 : decode cL_acts 339 = .ok (.aload 10, 2) := by decide +kernel
theorem dL_acts_341 : decode cL_acts 341 = .ok (.iconst 0, 1) := by decide +kernel
theorem dL_acts_342 : decode cL_acts 342 = .ok (.iaload, 1) := by decide +kernel
theorem dL_acts_343 : decode cL_acts 343 = .ok (.invokestatic 101, 3) := by decide +kernel
theorem dL_acts_346 : decode cL_acts 346 = .ok (.bipush (-72), 2) := by decide +kernel
theorem dL_acts_348 : decode cL_acts 348 = .ok (.if_icmp .eq 5, 3) := by decide +kernel
theorem dL_acts_351 : decode cL_acts 351 = .ok (.iconst 0, 1) := by decide +kernel
theorem dL_acts_352 : decode cL_acts 352 = .ok (.ireturn, 1) := by decide +kernel
theorem dL_acts_353 : decode cL_acts 353 = .ok (.aload 10, 2) := by decide +kernel
theorem dL_acts_355 : decode cL_acts 355 = .ok (.iconst 5, 1) := by decide +kernel
theorem dL_acts_356 : decode cL_acts 356 = .ok (.iaload, 1) := by decide +kernel
theorem dL_acts_357 : decode cL_acts 357 = .ok (.bipush 30, 2) := by decide +kernel
theorem dL_acts_359 : decode cL_acts 359 = .ok (.if_icmp .ne 28, 3) := by decide +kernel
theorem dL_acts_362 : decode cL_acts 362 = .ok (.aload_n 0, 1) := by decide +kernel
theorem dL_acts_363 : decode cL_acts 363 = .ok (.iload 11, 2) := by decide +kernel
theorem dL_acts_365 : decode cL_acts 365 = .ok (.bipush 100, 2) := by decide +kernel
theorem dL_acts_367 : decode cL_acts 367 = .ok (.idiv, 1) := by decide +kernel
theorem dL_acts_368 : decode cL_acts 368 = .ok (.iload 11, 2) := by decide +kernel
theorem dL_acts_370 : decode cL_acts 370 = .ok (.bipush 100, 2) := by decide +kernel
theorem dL_acts_372 : decode cL_acts 372 = .ok (.irem, 1) := by decide +kernel
theorem dL_acts_373 : decode cL_acts 373 = .ok (.invokestatic 101, 3) := by decide +kernel
theorem dL_acts_376 : decode cL_acts 376 = .ok (.bipush (-73), 2) := by decide +kernel
theorem dL_acts_378 : decode cL_acts 378 = .ok (.if_icmp .ne 7, 3) := by decide +kernel
theorem dL_acts_381 : decode cL_acts 381 = .ok (.iconst 1, 1) := by decide +kernel
theorem dL_acts_382 : decode cL_acts 382 = .ok (.goto 4, 3) := by decide +kernel
theorem dL_acts_385 : decode cL_acts 385 = .ok (.iconst 0, 1) := by decide +kernel
theorem dL_acts_386 : decode cL_acts 386 = .ok (.ireturn, 1) := by decide +kernel
theorem dL_acts_387 : decode cL_acts 387 = .ok (.aload 8, 2) := by decide +kernel
theorem dL_acts_389 : decode cL_acts 389 = .ok (.aload 10, 2) := by decide +kernel
theorem dL_acts_391 : decode cL_acts 391 = .ok (.iconst 5, 1) := by decide +kernel
theorem dL_acts_392 : decode cL_acts 392 = .ok (.iaload, 1) := by decide +kernel
theorem dL_acts_393 : decode cL_acts 393 = .ok (.iload 11, 2) := by decide +kernel
theorem dL_acts_395 : decode cL_acts 395 = .ok (.iastore, 1) := by decide +kernel
theorem dL_acts_396 : decode cL_acts 396 = .ok (.aload 10, 2) := by decide +kernel
theorem dL_acts_398 : decode cL_acts 398 = .ok (.iconst 5, 1) := by decide +kernel
theorem dL_acts_399 : decode cL_acts 399 = .ok (.dup2, 1) := by decide +kernel
theorem dL_acts_400 : decode cL_acts 400 = .ok (.iaload, 1) := by decide +kernel
theorem dL_acts_401 : decode cL_acts 401 = .ok (.iconst 1, 1) := by decide +kernel
theorem dL_acts_402 : decode cL_acts 402 = .ok (.iadd, 1) := by decide +kernel
theorem dL_acts_403 : decode cL_acts 403 = .ok (.iastore, 1) := by decide +kernel
theorem dL_acts_404 : decode cL_acts 404 = .ok (.aload_n 0, 1) := by decide +kernel
theorem dL_acts_405 : decode cL_acts 405 = .ok (.iload 11, 2) := by decide +kernel
theorem dL_acts_407 : decode cL_acts 407 = .ok (.bipush 100, 2) := by decide +kernel
theorem dL_acts_409 : decode cL_acts 409 = .ok (.idiv, 1) := by decide +kernel
theorem dL_acts_410 : decode cL_acts 410 = .ok (.iload 11, 2) := by decide +kernel
theorem dL_acts_412 : decode cL_acts 412 = .ok (.bipush 100, 2) := by decide +kernel
theorem dL_acts_414 : decode cL_acts 414 = .ok (.irem, 1) := by decide +kernel
theorem dL_acts_415 : decode cL_acts 415 = .ok (.invokestatic 101, 3) := by decide +kernel
theorem dL_acts_418 : decode cL_acts 418 = .ok (.aload 10, 2) := by decide +kernel
theorem dL_acts_420 : decode cL_acts 420 = .ok (.iconst 5, 1) := by decide +kernel
theorem dL_acts_421 : decode cL_acts 421 = .ok (.iaload, 1) := by decide +kernel
theorem dL_acts_422 : decode cL_acts 422 = .ok (.if_icmp .ne 7, 3) := by decide +kernel
theorem dL_acts_425 : decode cL_acts 425 = .ok (.iconst 1, 1) := by decide +kernel
theorem dL_acts_426 : decode cL_acts 426 = .ok (.goto 4, 3) := by decide +kernel
theorem dL_acts_429 : decode cL_acts 429 = .ok (.iconst 0, 1) := by decide +kernel
theorem dL_acts_430 : decode cL_acts 430 = .ok (.ireturn, 1) := by decide +kernel
theorem dL_acts_431 : decode cL_acts 431 = .ok (.iload_n 1, 1) := by decide +kernel
theorem dL_acts_432 : decode cL_acts 432 = .ok (.bipush 14, 2) := by decide +kernel
theorem dL_acts_434 : decode cL_acts 434 = .ok (.if_icmp .ne 113, 3) := by decide +kernel
theorem dL_acts_437 : decode cL_acts 437 = .ok (.aload 10, 2) := by decide +kernel
theorem dL_acts_439 : decode cL_acts 439 = .ok (.iconst 5, 1) := by decide +kernel
theorem dL_acts_440 : decode cL_acts 440 = .ok (.iaload, 1) := by decide +kernel
theorem dL_acts_441 : decode cL_acts 441 = .ok (.istore 12, 2) := by decide +kernel
theorem dL_acts_443 : decode cL_acts 443 = .ok (.iload_n 3, 1) := by decide +kernel
theorem dL_acts_444 : decode cL_acts 444 = .ok (.bipush 6, 2) := by decide +kernel
theorem dL_acts_446 : decode cL_acts 446 = .ok (.iand, 1) := by decide +kernel
theorem dL_acts_447 : decode cL_acts 447 = .ok (.ifCond .le 23, 3) := by decide +kernel
theorem dL_acts_450 : decode cL_acts 450 = .ok (.aload 10, 2) := by decide +kernel
theorem dL_acts_452 : decode cL_acts 452 = .ok (.iconst 5, 1) := by decide +kernel
theorem dL_acts_453 : decode cL_acts 453 = .ok (.iconst 0, 1) := by decide +kernel
theorem dL_acts_454 : decode cL_acts 454 = .ok (.iastore, 1) := by decide +kernel
theorem dL_acts_455 : decode cL_acts 455 = .ok (.aload_n 0, 1) := by decide +kernel
theorem dL_acts_456 : decode cL_acts 456 = .ok (.invokevirtual 103, 3) := by decide +kernel
theorem dL_acts_459 : decode cL_acts 459 = .ok (.iload 12, 2) := by decide +kernel
theorem dL_acts_461 : decode cL_acts 461 = .ok (.if_icmp .ne 7, 3) := by decide +kernel
theorem dL_acts_464 : decode cL_acts 464 = .ok (.iconst 1, 1) := by decide +kernel
theorem dL_acts_465 : decode cL_acts 465 = .ok (.goto 4, 3) := by decide +kernel
theorem dL_acts_468 : decode cL_acts 468 = .ok (.iconst 0, 1) := by decide +kernel
theorem dL_acts_469 : decode cL_acts 469 = .ok (.ireturn, 1) := by decide +kernel
theorem dL_acts_470 : decode cL_acts 470 = .ok (.aload 10, 2) := by decide +kernel
theorem dL_acts_472 : decode cL_acts 472 = .ok (.iconst 5, 1) := by decide +kernel
theorem dL_acts_473 : decode cL_acts 473 = .ok (.aload 10, 2) := by decide +kernel
theorem dL_acts_475 : decode cL_acts 475 = .ok (.iconst 4, 1) := by decide +kernel
theorem dL_acts_476 : decode cL_acts 476 = .ok (.iaload, 1) := by decide +kernel
theorem dL_acts_477 : decode cL_acts 477 = .ok (.bipush 30, 2) := by decide +kernel
theorem dL_acts_479 : decode cL_acts 479 = .ok (.if_icmp .ge 10, 3) := by decide +kernel
theorem dL_acts_482 : decode cL_acts 482 = .ok (.aload 10, 2) := by decide +kernel
theorem dL_acts_484 : decode cL_acts 484 = .ok (.iconst 4, 1) := by decide +kernel
theorem dL_acts_485 : decode cL_acts 485 = .ok (.iaload, 1) := by decide +kernel
theorem dL_acts_486 : decode cL_acts 486 = .ok (.goto 5, 3) := by decide +kernel
theorem dL_acts_489 : decode cL_acts 489 = .ok (.bipush 30, 2) := by decide +kernel
theorem dL_acts_491 : decode cL_acts 491 = .ok (.iastore, 1) := by decide +kernel
theorem dL_acts_492 : decode cL_acts 492 = .ok (.iconst 0, 1) := by decide +kernel
theorem dL_acts_493 : decode cL_acts 493 = .ok (.istore 13, 2) := by decide +kernel
theorem dL_acts_495 : decode cL_acts 495 = .ok (.iload 13, 2) := by decide +kernel
theorem dL_acts_497 : decode cL_acts 497 = .ok (.aload 10, 2) := by decide +kernel
theorem dL_acts_499 : decode cL_acts 499 = .ok (.iconst 5, 1) := by decide +kernel
theorem dL_acts_500 : decode cL_acts 500 = .ok (.iaload, 1) := by decide +kernel
theorem dL_acts_501 : decode cL_acts 501 = .ok (.if_icmp .ge 29, 3) := by decide +kernel
theorem dL_acts_504 : decode cL_acts 504 = .ok (.aload 8, 2) := by decide +kernel
theorem dL_acts_506 : decode cL_acts 506 = .ok (.iload 13, 2) := by decide +kernel
theorem dL_acts_508 : decode cL_acts 508 = .ok (.aload 7, 2) := by decide +kernel
theorem dL_acts_510 : decode cL_acts 510 = .ok (.aload 10, 2) := by decide +kernel
theorem dL_acts_512 : decode cL_acts 512 = .ok (.iconst 4, 1) := by decide +kernel
theorem dL_acts_513 : decode cL_acts 513 = .ok (.iaload, 1) := by decide +kernel
theorem dL_acts_514 : decode cL_acts 514 = .ok (.iconst 1, 1) := by decide +kernel
theorem dL_acts_515 : decode cL_acts 515 = .ok (.isub, 1) := by decide +kernel
theorem dL_acts_516 : decode cL_acts 516 = .ok (.iload 13, 2) := by decide +kernel
theorem dL_acts_518 : decode cL_acts 518 = .ok (.isub, 1) := by decide +kernel
theorem dL_acts_519 : decode cL_acts 519 = .ok (.iaload, 1) := by decide +kernel
theorem dL_acts_520 : decode cL_acts 520 = .ok (.invokestatic 98, 3) := by decide +kernel
theorem dL_acts_523 : decode cL_acts 523 = .ok (.iastore, 1) := by decide +kernel
theorem dL_acts_524 : decode cL_acts 524 = .ok (.iinc 13 1, 3) := by decide +kernel
theorem dL_acts_527 : decode cL_acts 527 = .ok (.goto (-32), 3) := by decide +kernel
theorem dL_acts_530 : decode cL_acts 530 = .ok (.aload_n 0, 1) := by decide +kernel
theorem dL_acts_531 : decode cL_acts 531 = .ok (.invokevirtual 106, 3) := by decide +kernel
theorem dL_acts_534 : decode cL_acts 534 = .ok (.aload 10, 2) := by decide +kernel
theorem dL_acts_536 : decode cL_acts 536 = .ok (.iconst 5, 1) := by decide +kernel
theorem dL_acts_537 : decode cL_acts 537 = .ok (.iaload, 1) := by decide +kernel
theorem dL_acts_538 : decode cL_acts 538 = .ok (.if_icmp .ne 7, 3) := by decide +kernel
theorem dL_acts_541 : decode cL_acts 541 = .ok (.iconst 1, 1) := by decide +kernel
theorem dL_acts_542 : decode cL_acts 542 = .ok (.goto 4, 3) := by decide +kernel
theorem dL_acts_545 : decode cL_acts 545 = .ok (.iconst 0, 1) := by decide +kernel
theorem dL_acts_546 : decode cL_acts 546 = .ok (.ireturn, 1) := by decide +kernel
theorem dL_acts_547 : decode cL_acts 547 = .ok (.iload_n 1, 1) := by decide +kernel
theorem dL_acts_548 : decode cL_acts 548 = .ok (.bipush 18, 2) := by decide +kernel
theorem dL_acts_550 : decode cL_acts 550 = .ok (.if_icmp .ge 231, 3) := by decide +kernel
theorem dL_acts_553 : decode cL_acts 553 = .ok (.iconst 1, 1) := by decide +kernel
theorem dL_acts_554 : decode cL_acts 554 = .ok (.iload_n 3, 1) := by decide +kernel
theorem dL_acts_555 : decode cL_acts 555 = .ok (.bipush 8, 2) := by decide +kernel
theorem dL_acts_557 : decode cL_acts 557 = .ok (.invokestatic 73, 3) := by decide +kernel
theorem dL_acts_560 : decode cL_acts 560 = .ok (.iadd, 1) := by decide +kernel
theorem dL_acts_561 : decode cL_acts 561 = .ok (.istore 12, 2) := by decide +kernel
theorem dL_acts_563 : decode cL_acts 563 = .ok (.aload 10, 2) := by decide +kernel
theorem dL_acts_565 : decode cL_acts 565 = .ok (.iconst 4, 1) := by decide +kernel
theorem dL_acts_566 : decode cL_acts 566 = .ok (.iaload, 1) := by decide +kernel
theorem dL_acts_567 : decode cL_acts 567 = .ok (.iload 12, 2) := by decide +kernel
theorem dL_acts_569 : decode cL_acts 569 = .ok (.iadd, 1) := by decide +kernel
theorem dL_acts_570 : decode cL_acts 570 = .ok (.bipush 60, 2) := by decide +kernel
theorem dL_acts_572 : decode cL_acts 572 = .ok (.if_icmp .le 13, 3) := by decide +kernel
theorem dL_acts_575 : decode cL_acts 575 = .ok (.bipush 60, 2) := by decide +kernel
theorem dL_acts_577 : decode cL_acts 577 = .ok (.aload 10, 2) := by decide +kernel
theorem dL_acts_579 : decode cL_acts 579 = .ok (.iconst 4, 1) := by decide +kernel
theorem dL_acts_580 : decode cL_acts 580 = .ok (.iaload, 1) := by decide +kernel
theorem dL_acts_581 : decode cL_acts 581 = .ok (.isub, 1) := by decide +kernel
theorem dL_acts_582 : decode cL_acts 582 = .ok (.goto 5, 3) := by decide +kernel
theorem dL_acts_585 : decode cL_acts 585 = .ok (.iload 12, 2) := by decide +kernel
theorem dL_acts_587 : decode cL_acts 587 = .ok (.istore 12, 2) := by decide +kernel
theorem dL_acts_589 : decode cL_acts 589 = .ok (.aload_n 0, 1) := by decide +kernel
theorem dL_acts_590 : decode cL_acts 590 = .ok (.iconst 0, 1) := by decide +kernel
theorem dL_acts_591 : decode cL_acts 591 = .ok (.invokestatic 109, 3) := by decide +kernel
theorem dL_acts_594 : decode cL_acts 594 = .ok (.bipush (-71), 2) := by decide +kernel
theorem dL_acts_596 : decode cL_acts 596 = .ok (.if_icmp .ne 14, 3) := by decide +kernel
theorem dL_acts_599 : decode cL_acts 599 = .ok (.aload_n 0, 1) := by decide +kernel
theorem dL_acts_600 : decode cL_acts 600 = .ok (.bipush 31, 2) := by decide +kernel
theorem dL_acts_602 : decode cL_acts 602 = .ok (.invokestatic 109, 3) := by decide +kernel
theorem dL_acts_605 : decode cL_acts 605 = .ok (.bipush (-71), 2) := by decide +kernel
theorem dL_acts_607 : decode cL_acts 607 = .ok (.if_icmp .eq 5, 3) := by decide +kernel
theorem dL_acts_610 : decode cL_acts 610 = .ok (.iconst 0, 1) := by decide +kernel
theorem dL_acts_611 : decode cL_acts 611 = .ok (.ireturn, 1) := by decide +kernel
theorem dL_acts_612 : decode cL_acts 612 = .ok (.iload 12, 2) := by decide +kernel
theorem dL_acts_614 : decode cL_acts 614 = .ok (.ifCond .ne 18, 3) := by decide +kernel
theorem dL_acts_617 : decode cL_acts 617 = .ok (.aload_n 0, 1) := by decide +kernel
theorem dL_acts_618 : decode cL_acts 618 = .ok (.invokevirtual 112, 3) := by decide +kernel
theorem dL_acts_621 : decode cL_acts 621 = .ok (.bipush 60, 2) := by decide +kernel
theorem dL_acts_623 : decode cL_acts 623 = .ok (.if_icmp .ne 7, 3) := by decide +kernel
theorem dL_acts_626 : decode cL_acts 626 = .ok (.iconst 1, 1) := by decide +kernel
theorem dL_acts_627 : decode cL_acts 627 = .ok (.goto 4, 3) := by decide +kernel
theorem dL_acts_630 : decode cL_acts 630 = .ok (.iconst 0, 1) := by decide +kernel
theorem dL_acts_631 : decode cL_acts 631 = .ok (.ireturn, 1) := by decide +kernel
theorem dL_acts_632 : decode cL_acts 632 = .ok (.iconst 0, 1) := by decide +kernel
theorem dL_acts_633 : decode cL_acts 633 = .ok (.istore 13, 2) := by decide +kernel
theorem dL_acts_635 : decode cL_acts 635 = .ok (.iload 13, 2) := by decide +kernel
theorem dL_acts_637 : decode cL_acts 637 = .ok (.iload 12, 2) := by decide +kernel
theorem dL_acts_639 : decode cL_acts 639 = .ok (.if_icmp .ge 84, 3) := by decide +kernel
theorem dL_acts_642 : decode cL_acts 642 = .ok (.iload 13, 2) := by decide +kernel
theorem dL_acts_644 : decode cL_acts 644 = .ok (.aload 10, 2) := by decide +kernel
theorem dL_acts_646 : decode cL_acts 646 = .ok (.iconst 5, 1) := by decide +kernel
theorem dL_acts_647 : decode cL_acts 647 = .ok (.iaload, 1) := by decide +kernel
theorem dL_acts_648 : decode cL_acts 648 = .ok (.if_icmp .ge 75, 3) := by decide +kernel
theorem dL_acts_651 : decode cL_acts 651 = .ok (.aload 4, 2) := by decide +kernel
theorem dL_acts_653 : decode cL_acts 653 = .ok (.aload 6, 2) := by decide +kernel
theorem dL_acts_655 : decode cL_acts 655 = .ok (.aload 9, 2) := by decide +kernel
theorem dL_acts_657 : decode cL_acts 657 = .ok (.aload 10, 2) := by decide +kernel
theorem dL_acts_659 : decode cL_acts 659 = .ok (.aload 5, 2) := by decide +kernel
theorem dL_acts_661 : decode cL_acts 661 = .ok (.aload 8, 2) := by decide +kernel
theorem dL_acts_663 : decode cL_acts 663 = .ok (.iload 13, 2) := by decide +kernel
theorem dL_acts_665 : decode cL_acts 665 = .ok (.iaload, 1) := by decide +kernel
theorem dL_acts_666 : decode cL_acts 666 = .ok (.invokestatic 89, 3) := by decide +kernel
theorem dL_acts_669 : decode cL_acts 669 = .ok (.ifCond .ne 54, 3) := by decide +kernel
theorem dL_acts_672 : decode cL_acts 672 = .ok (.aload 5, 2) := by decide +kernel
theorem dL_acts_674 : decode cL_acts 674 = .ok (.aload 8, 2) := by decide +kernel
theorem dL_acts_676 : decode cL_acts 676 = .ok (.iload 13, 2) := by decide +kernel
theorem dL_acts_678 : decode cL_acts 678 = .ok (.iaload, 1) := by decide +kernel
theorem dL_acts_679 : decode cL_acts 679 = .ok (.sipush 200, 3) := by decide +kernel
theorem dL_acts_682 : decode cL_acts 682 = .ok (.idiv, 1) := by decide +kernel
theorem dL_acts_683 : decode cL_acts 683 = .ok (.dup2, 1) := by decide +kernel
theorem dL_acts_684 : decode cL_acts 684 = .ok (.iaload, 1) := by decide +kernel
theorem dL_acts_685 : decode cL_acts 685 = .ok (.iconst 1, 1) := by decide +kernel
theorem dL_acts_686 : decode cL_acts 686 = .ok (.aload 8, 2) := by decide +kernel
theorem dL_acts_688 : decode cL_acts 688 = .ok (.iload 13, 2) := by decide +kernel
theorem dL_acts_690 : decode cL_acts 690 = .ok (.iaload, 1) := by decide +kernel
theorem dL_acts_691 : decode cL_acts 691 = .ok (.bipush 100, 2) := by decide +kernel
theorem dL_acts_693 : decode cL_acts 693 = .ok (.irem, 1) := by decide +kernel
theorem dL_acts_694 : decode cL_acts 694 = .ok (.ishl, 1) := by decide +kernel
theorem dL_acts_695 : decode cL_acts 695 = .ok (.ixor, 1) := by decide +kernel
theorem dL_acts_696 : decode cL_acts 696 = .ok (.iastore, 1) := by decide +kernel
theorem dL_acts_697 : decode cL_acts 697 = .ok (.aload 7, 2) := by decide +kernel
theorem dL_acts_699 : decode cL_acts 699 = .ok (.aload 10, 2) := by decide +kernel
theorem dL_acts_701 : decode cL_acts 701 = .ok (.iconst 4, 1) := by decide +kernel
theorem dL_acts_702 : decode cL_acts 702 = .ok (.iaload, 1) := by decide +kernel
theorem dL_acts_703 : decode cL_acts 703 = .ok (.aload 8, 2) := by decide +kernel
theorem dL_acts_705 : decode cL_acts 705 = .ok (.iload 13, 2) := by decide +kernel
theorem dL_acts_707 : decode cL_acts 707 = .ok (.iaload, 1) := by decide +kernel
theorem dL_acts_708 : decode cL_acts 708 = .ok (.iastore, 1) := by decide +kernel
theorem dL_acts_709 : decode cL_acts 709 = .ok (.aload 10, 2) := by decide +kernel
theorem dL_acts_711 : decode cL_acts 711 = .ok (.iconst 4, 1) := by decide +kernel
theorem dL_acts_712 : decode cL_acts 712 = .ok (.dup2, 1) := by decide +kernel
theorem dL_acts_713 : decode cL_acts 713 = .ok (.iaload, 1) := by decide +kernel
theorem dL_acts_714 : decode cL_acts 714 = .ok (.iconst 1, 1) := by decide +kernel
theorem dL_acts_715 : decode cL_acts 715 = .ok (.iadd, 1) := by decide +kernel
theorem dL_acts_716 : decode cL_acts 716 = .ok (.iastore, 1) := by decide +kernel
theorem dL_acts_717 : decode cL_acts 717 = .ok (.iinc 13 1, 3) := by decide +kernel
theorem dL_acts_720 : decode cL_acts 720 = .ok (.goto (-85), 3) := by decide +kernel
theorem dL_acts_723 : decode cL_acts 723 = .ok (.iload 13, 2) := by decide +kernel
theorem dL_acts_725 : decode cL_acts 725 = .ok (.istore 14, 2) := by decide +kernel
theorem dL_acts_727 : decode cL_acts 727 = .ok (.iload 14, 2) := by decide +kernel
theorem dL_acts_729 : decode cL_acts 729 = .ok (.aload 10, 2) := by decide +kernel
theorem dL_acts_731 : decode cL_acts 731 = .ok (.iconst 5, 1) := by decide +kernel
theorem dL_acts_732 : decode cL_acts 732 = .ok (.iaload, 1) := by decide +kernel
theorem dL_acts_733 : decode cL_acts 733 = .ok (.if_icmp .ge 22, 3) := by decide +kernel
theorem dL_acts_736 : decode cL_acts 736 = .ok (.aload 8, 2) := by decide +kernel
theorem dL_acts_738 : decode cL_acts 738 = .ok (.iload 14, 2) := by decide +kernel
theorem dL_acts_740 : decode cL_acts 740 = .ok (.iload 13, 2) := by decide +kernel
theorem dL_acts_742 : decode cL_acts 742 = .ok (.isub, 1) := by decide +kernel
theorem dL_acts_743 : decode cL_acts 743 = .ok (.aload 8, 2) := by decide +kernel
theorem dL_acts_745 : decode cL_acts 745 = .ok (.iload 14, 2) := by decide +kernel
theorem dL_acts_747 : decode cL_acts 747 = .ok (.iaload, 1) := by decide +kernel
theorem dL_acts_748 : decode cL_acts 748 = .ok (.iastore, 1) := by decide +kernel
theorem dL_acts_749 : decode cL_acts 749 = .ok (.iinc 14 1, 3) := by decide +kernel
theorem dL_acts_752 : decode cL_acts 752 = .ok (.goto (-25), 3) := by decide +kernel
theorem dL_acts_755 : decode cL_acts 755 = .ok (.aload 10, 2) := by decide +kernel
theorem dL_acts_757 : decode cL_acts 757 = .ok (.iconst 5, 1) := by decide +kernel
theorem dL_acts_758 : decode cL_acts 758 = .ok (.dup2, 1) := by decide +kernel
theorem dL_acts_759 : decode cL_acts 759 = .ok (.iaload, 1) := by decide +kernel
theorem dL_acts_760 : decode cL_acts 760 = .ok (.iload 13, 2) := by decide +kernel
theorem dL_acts_762 : decode cL_acts 762 = .ok (.isub, 1) := by decide +kernel
theorem dL_acts_763 : decode cL_acts 763 = .ok (.iastore, 1) := by decide +kernel
theorem dL_acts_764 : decode cL_acts 764 = .ok (.aload_n 0, 1) := by decide +kernel
theorem dL_acts_765 : decode cL_acts 765 = .ok (.iload 12, 2) := by decide +kernel
theorem dL_acts_767 : decode cL_acts 767 = .ok (.invokestatic 109, 3) := by decide +kernel
theorem dL_acts_770 : decode cL_acts 770 = .ok (.iload 13, 2) := by decide +kernel
theorem dL_acts_772 : decode cL_acts 772 = .ok (.if_icmp .ne 7, 3) := by decide +kernel
theorem dL_acts_775 : decode cL_acts 775 = .ok (.iconst 1, 1) := by decide +kernel
theorem dL_acts_776 : decode cL_acts 776 = .ok (.goto 4, 3) := by decide +kernel
theorem dL_acts_779 : decode cL_acts 779 = .ok (.iconst 0, 1) := by decide +kernel
theorem dL_acts_780 : decode cL_acts 780 = .ok (.ireturn, 1) := by decide +kernel
theorem dL_acts_781 : decode cL_acts 781 = .ok (.iload_n 1, 1) := by decide +kernel
theorem dL_acts_782 : decode cL_acts 782 = .ok (.bipush 21, 2) := by decide +kernel
theorem dL_acts_784 : decode cL_acts 784 = .ok (.if_icmp .ge 253, 3) := by decide +kernel
theorem dL_acts_787 : decode cL_acts 787 = .ok (.aload 4, 2) := by decide +kernel
theorem dL_acts_789 : decode cL_acts 789 = .ok (.aload 6, 2) := by decide +kernel
theorem dL_acts_791 : decode cL_acts 791 = .ok (.aload 10, 2) := by decide +kernel
theorem dL_acts_793 : decode cL_acts 793 = .ok (.aload 5, 2) := by decide +kernel
theorem dL_acts_795 : decode cL_acts 795 = .ok (.iconst 0, 1) := by decide +kernel
theorem dL_acts_796 : decode cL_acts 796 = .ok (.iaload, 1) := by decide +kernel
theorem dL_acts_797 : decode cL_acts 797 = .ok (.invokestatic 65, 3) := by decide +kernel
theorem dL_acts_800 : decode cL_acts 800 = .ok (.aload 6, 2) := by decide +kernel
theorem dL_acts_802 : decode cL_acts 802 = .ok (.aload 10, 2) := by decide +kernel
theorem dL_acts_804 : decode cL_acts 804 = .ok (.aload 5, 2) := by decide +kernel
theorem dL_acts_806 : decode cL_acts 806 = .ok (.iconst 1, 1) := by decide +kernel
theorem dL_acts_807 : decode cL_acts 807 = .ok (.iaload, 1) := by decide +kernel
theorem dL_acts_808 : decode cL_acts 808 = .ok (.invokestatic 69, 3) := by decide +kernel
theorem dL_acts_811 : decode cL_acts 811 = .ok (.aload 6, 2) := by decide +kernel
theorem dL_acts_813 : decode cL_acts 813 = .ok (.aload 10, 2) := by decide +kernel
theorem dL_acts_815 : decode cL_acts 815 = .ok (.aload 5, 2) := by decide +kernel
theorem dL_acts_817 : decode cL_acts 817 = .ok (.iconst 2, 1) := by decide +kernel
theorem dL_acts_818 : decode cL_acts 818 = .ok (.iaload, 1) := by decide +kernel
theorem dL_acts_819 : decode cL_acts 819 = .ok (.invokestatic 69, 3) := by decide +kernel
theorem dL_acts_822 : decode cL_acts 822 = .ok (.iconst (-1), 1) := by decide +kernel
theorem dL_acts_823 : decode cL_acts 823 = .ok (.ixor, 1) := by decide +kernel
theorem dL_acts_824 : decode cL_acts 824 = .ok (.iand, 1) := by decide +kernel
theorem dL_acts_825 : decode cL_acts 825 = .ok (.aload 9, 2) := by decide +kernel
theorem dL_acts_827 : decode cL_acts 827 = .ok (.aload 10, 2) := by decide +kernel
theorem dL_acts_829 : decode cL_acts 829 = .ok (.invokestatic 59, 3) := by decide +kernel
theorem dL_acts_832 : decode cL_acts 832 = .ok (.iconst (-1), 1) := by decide +kernel
theorem dL_acts_833 : decode cL_acts 833 = .ok (.ixor, 1) := by decide +kernel
theorem dL_acts_834 : decode cL_acts 834 = .ok (.iand, 1) := by decide +kernel
theorem dL_acts_835 : decode cL_acts 835 = .ok (.istore 12, 2) := by decide +kernel
theorem dL_acts_837 : decode cL_acts 837 = .ok (.iconst 1, 1) := by decide +kernel
theorem dL_acts_838 : decode cL_acts 838 = .ok (.aload 10, 2) := by decide +kernel
theorem dL_acts_840 : decode cL_acts 840 = .ok (.iconst 0, 1) := by decide +kernel
theorem dL_acts_841 : decode cL_acts 841 = .ok (.iaload, 1) := by decide +kernel
theorem dL_acts_842 : decode cL_acts 842 = .ok (.ishl, 1) := by decide +kernel
theorem dL_acts_843 : decode cL_acts 843 = .ok (.iconst 1, 1) := by decide +kernel
theorem dL_acts_844 : decode cL_acts 844 = .ok (.isub, 1) := by decide +kernel
theorem dL_acts_845 : decode cL_acts 845 = .ok (.istore 13, 2) := by decide +kernel
theorem dL_acts_847 : decode cL_acts 847 = .ok (.iload_n 2, 1) := by decide +kernel
theorem dL_acts_848 : decode cL_acts 848 = .ok (.bipush 6, 2) := by decide +kernel
theorem dL_acts_850 : decode cL_acts 850 = .ok (.iand, 1) := by decide +kernel
theorem dL_acts_851 : decode cL_acts 851 = .ok (.ifCond .le 10, 3) := by decide +kernel
theorem dL_acts_854 : decode cL_acts 854 = .ok (.iload 12, 2) := by decide +kernel
theorem dL_acts_856 : decode cL_acts 856 = .ok (.iload_n 3, 1) := by decide +kernel
theorem dL_acts_857 : decode cL_acts 857 = .ok (.iand, 1) := by decide +kernel
theorem dL_acts_858 : decode cL_acts 858 = .ok (.goto 7, 3) := by decide +kernel
theorem dL_acts_861 : decode cL_acts 861 = .ok (.iload_n 3, 1) := by decide +kernel
theorem dL_acts_862 : decode cL_acts 862 = .ok (.iload 13, 2) := by decide +kernel
theorem dL_acts_864 : decode cL_acts 864 = .ok (.iand, 1) := by decide +kernel
theorem dL_acts_865 : decode cL_acts 865 = .ok (.istore 14, 2) := by decide +kernel
theorem dL_acts_867 : decode cL_acts 867 = .ok (.iload 12, 2) := by decide +kernel
theorem dL_acts_869 : decode cL_acts 869 = .ok (.ifCond .eq 24, 3) := by decide +kernel
theorem dL_acts_872 : decode cL_acts 872 = .ok (.iload 14, 2) := by decide +kernel
theorem dL_acts_874 : decode cL_acts 874 = .ok (.ifCond .eq 10, 3) := by decide +kernel
theorem dL_acts_877 : decode cL_acts 877 = .ok (.iload_n 2, 1) := by decide +kernel
theorem dL_acts_878 : decode cL_acts 878 = .ok (.bipush 24, 2) := by decide +kernel
theorem dL_acts_880 : decode cL_acts 880 = .ok (.iand, 1) := by decide +kernel
theorem dL_acts_881 : decode cL_acts 881 = .ok (.ifCond .ne 12, 3) := by decide +kernel
theorem dL_acts_884 : decode cL_acts 884 = .ok (.iload 12, 2) := by decide +kernel
theorem dL_acts_886 : decode cL_acts 886 = .ok (.iload 12, 2) := by decide +kernel
theorem dL_acts_888 : decode cL_acts 888 = .ok (.ineg, 1) := by decide +kernel
theorem dL_acts_889 : decode cL_acts 889 = .ok (.iand, 1) := by decide +kernel
theorem dL_acts_890 : decode cL_acts 890 = .ok (.goto 5, 3) := by decide +kernel
theorem dL_acts_893 : decode cL_acts 893 = .ok (.iload 14, 2) := by decide +kernel
theorem dL_acts_895 : decode cL_acts 895 = .ok (.istore 14, 2) := by decide +kernel
theorem dL_acts_897 : decode cL_acts 897 = .ok (.aload_n 0, 1) := by decide +kernel
theorem dL_acts_898 : decode cL_acts 898 = .ok (.iconst 0, 1) := by decide +kernel
theorem dL_acts_899 : decode cL_acts 899 = .ok (.invokestatic 115, 3) := by decide +kernel
theorem dL_acts_902 : decode cL_acts 902 = .ok (.bipush (-71), 2) := by decide +kernel
theorem dL_acts_904 : decode cL_acts 904 = .ok (.if_icmp .ne 28, 3) := by decide +kernel
theorem dL_acts_907 : decode cL_acts 907 = .ok (.aload_n 0, 1) := by decide +kernel
theorem dL_acts_908 : decode cL_acts 908 = .ok (.iconst 1, 1) := by decide +kernel
theorem dL_acts_909 : decode cL_acts 909 = .ok (.aload 10, 2) := by decide +kernel
theorem dL_acts_911 : decode cL_acts 911 = .ok (.iconst 0, 1) := by decide +kernel
theorem dL_acts_912 : decode cL_acts 912 = .ok (.iaload, 1) := by decide +kernel
theorem dL_acts_913 : decode cL_acts 913 = .ok (.ishl, 1) := by decide +kernel
theorem dL_acts_914 : decode cL_acts 914 = .ok (.invokestatic 115, 3) := by decide +kernel
theorem dL_acts_917 : decode cL_acts 917 = .ok (.bipush (-71), 2) := by decide +kernel
theorem dL_acts_919 : decode cL_acts 919 = .ok (.if_icmp .ne 13, 3) := by decide +kernel
theorem dL_acts_922 : decode cL_acts 922 = .ok (.aload_n 0, 1) := by decide +kernel
theorem dL_acts_923 : decode cL_acts 923 = .ok (.iconst (-1), 1) := by decide +kernel
theorem dL_acts_924 : decode cL_acts 924 = .ok (.invokestatic 115, 3) := by decide +kernel
theorem dL_acts_927 : decode cL_acts 927 = .ok (.bipush (-71), 2) := by decide +kernel
theorem dL_acts_929 : decode cL_acts 929 = .ok (.if_icmp .eq 5, 3) := by decide +kernel
theorem dL_acts_932 : decode cL_acts 932 = .ok (.iconst 0, 1) := by decide +kernel
theorem dL_acts_933 : decode cL_acts 933 = .ok (.ireturn, 1) := by decide +kernel
theorem dL_acts_934 : decode cL_acts 934 = .ok (.iload 14, 2) := by decide +kernel
theorem dL_acts_936 : decode cL_acts 936 = .ok (.ifCond .ne 23, 3) := by decide +kernel
theorem dL_acts_939 : decode cL_acts 939 = .ok (.aload_n 0, 1) := by decide +kernel
theorem dL_acts_940 : decode cL_acts 940 = .ok (.invokevirtual 117, 3) := by decide +kernel
theorem dL_acts_943 : decode cL_acts 943 = .ok (.aload 9, 2) := by decide +kernel
theorem dL_acts_945 : decode cL_acts 945 = .ok (.aload 10, 2) := by decide +kernel
theorem dL_acts_947 : decode cL_acts 947 = .ok (.invokestatic 59, 3) := by decide +kernel
theorem dL_acts_950 : decode cL_acts 950 = .ok (.if_icmp .ne 7, 3) := by decide +kernel
theorem dL_acts_953 : decode cL_acts 953 = .ok (.iconst 1, 1) := by decide +kernel
theorem dL_acts_954 : decode cL_acts 954 = .ok (.goto 4, 3) := by decide +kernel
theorem dL_acts_957 : decode cL_acts 957 = .ok (.iconst 0, 1) := by decide +kernel
theorem dL_acts_958 : decode cL_acts 958 = .ok (.ireturn, 1) := by decide +kernel
theorem dL_acts_959 : decode cL_acts 959 = .ok (.aload 10, 2) := by decide +kernel
theorem dL_acts_961 : decode cL_acts 961 = .ok (.bipush 6, 2) := by decide +kernel
theorem dL_acts_963 : decode cL_acts 963 = .ok (.iaload, 1) := by decide +kernel
theorem dL_acts_964 : decode cL_acts 964 = .ok (.bipush 10, 2) := by decide +kernel
theorem dL_acts_966 : decode cL_acts 966 = .ok (.if_icmp .eq 13, 3) := by decide +kernel
theorem dL_acts_969 : decode cL_acts 969 = .ok (.iload 14, 2) := by decide +kernel
theorem dL_acts_971 : decode cL_acts 971 = .ok (.iload 12, 2) := by decide +kernel
theorem dL_acts_973 : decode cL_acts 973 = .ok (.iconst (-1), 1) := by decide +kernel
theorem dL_acts_974 : decode cL_acts 974 = .ok (.ixor, 1) := by decide +kernel
theorem dL_acts_975 : decode cL_acts 975 = .ok (.iand, 1) := by decide +kernel
theorem dL_acts_976 : decode cL_acts 976 = .ok (.ifCond .eq 20, 3) := by decide +kernel
theorem dL_acts_979 : decode cL_acts 979 = .ok (.aload_n 0, 1) := by decide +kernel
theorem dL_acts_980 : decode cL_acts 980 = .ok (.iload 14, 2) := by decide +kernel
theorem dL_acts_982 : decode cL_acts 982 = .ok (.invokestatic 115, 3) := by decide +kernel
theorem dL_acts_985 : decode cL_acts 985 = .ok (.bipush (-73), 2) := by decide +kernel
theorem dL_acts_987 : decode cL_acts 987 = .ok (.if_icmp .ne 7, 3) := by decide +kernel
theorem dL_acts_990 : decode cL_acts 990 = .ok (.iconst 1, 1) := by decide +kernel
theorem dL_acts_991 : decode cL_acts 991 = .ok (.goto 4, 3) := by decide +kernel
theorem dL_acts_994 : decode cL_acts 994 = .ok (.iconst 0, 1) := by decide +kernel
theorem dL_acts_995 : decode cL_acts 995 = .ok (.ireturn, 1) := by decide +kernel
theorem dL_acts_996 : decode cL_acts 996 = .ok (.aload 9, 2) := by decide +kernel
theorem dL_acts_998 : decode cL_acts 998 = .ok (.aload 10, 2) := by decide +kernel
theorem dL_acts_1000 : decode cL_acts 1000 = .ok (.bipush 6, 2) := by decide +kernel
theorem dL_acts_1002 : decode cL_acts 1002 = .ok (.iaload, 1) := by decide +kernel
theorem dL_acts_1003 : decode cL_acts 1003 = .ok (.iload 14, 2) := by decide +kernel
theorem dL_acts_1005 : decode cL_acts 1005 = .ok (.iastore, 1) := by decide +kernel
theorem dL_acts_1006 : decode cL_acts 1006 = .ok (.aload 10, 2) := by decide +kernel
theorem dL_acts_1008 : decode cL_acts 1008 = .ok (.bipush 6, 2) := by decide +kernel
theorem dL_acts_1010 : decode cL_acts 1010 = .ok (.dup2, 1) := by decide +kernel
theorem dL_acts_1011 : decode cL_acts 1011 = .ok (.iaload, 1) := by decide +kernel
theorem dL_acts_1012 : decode cL_acts 1012 = .ok (.iconst 1, 1) := by decide +kernel
theorem dL_acts_1013 : decode cL_acts 1013 = .ok (.iadd, 1) := by decide +kernel
theorem dL_acts_1014 : decode cL_acts 1014 = .ok (.iastore, 1) := by decide +kernel
theorem dL_acts_1015 : decode cL_acts 1015 = .ok (.aload_n 0, 1) := by decide +kernel
theorem dL_acts_1016 : decode cL_acts 1016 = .ok (.iload 14, 2) := by decide +kernel
theorem dL_acts_1018 : decode cL_acts 1018 = .ok (.invokestatic 115, 3) := by decide +kernel
theorem dL_acts_1021 : decode cL_acts 1021 = .ok (.aload 10, 2) := by decide +kernel
theorem dL_acts_1023 : decode cL_acts 1023 = .ok (.bipush 6, 2) := by decide +kernel
theorem dL_acts_1025 : decode cL_acts 1025 = .ok (.iaload, 1) := by decide +kernel
theorem dL_acts_1026 : decode cL_acts 1026 = .ok (.iconst 1, 1) := by decide +kernel
theorem dL_acts_1027 : decode cL_acts 1027 = .ok (.isub, 1) := by decide +kernel
theorem dL_acts_1028 : decode cL_acts 1028 = .ok (.if_icmp .ne 7, 3) := by decide +kernel
theorem dL_acts_1031 : decode cL_acts 1031 = .ok (.iconst 1, 1) := by decide +kernel
theorem dL_acts_1032 : decode cL_acts 1032 = .ok (.goto 4, 3) := by decide +kernel
theorem dL_acts_1035 : decode cL_acts 1035 = .ok (.iconst 0, 1) := by decide +kernel
theorem dL_acts_1036 : decode cL_acts 1036 = .ok (.ireturn, 1) := by decide +kernel
theorem dL_acts_1037 : decode cL_acts 1037 = .ok (.iload_n 3, 1) := by decide +kernel
theorem dL_acts_1038 : decode cL_acts 1038 = .ok (.aload 10, 2) := by decide +kernel
theorem dL_acts_1040 : decode cL_acts 1040 = .ok (.bipush 6, 2) := by decide +kernel
theorem dL_acts_1042 : decode cL_acts 1042 = .ok (.iaload, 1) := by decide +kernel
theorem dL_acts_1043 : decode cL_acts 1043 = .ok (.iconst 1, 1) := by decide +kernel
theorem dL_acts_1044 : decode cL_acts 1044 = .ok (.iadd, 1) := by decide +kernel
theorem dL_acts_1045 : decode cL_acts 1045 = .ok (.invokestatic 73, 3) := by decide +kernel
theorem dL_acts_1048 : decode cL_acts 1048 = .ok (.istore 12, 2) := by decide +kernel
theorem dL_acts_1050 : decode cL_acts 1050 = .ok (.iload 12, 2) := by decide +kernel
theorem dL_acts_1052 : decode cL_acts 1052 = .ok (.aload 10, 2) := by decide +kernel
theorem dL_acts_1054 : decode cL_acts 1054 = .ok (.bipush 6, 2) := by decide +kernel
theorem dL_acts_1056 : decode cL_acts 1056 = .ok (.iaload, 1) := by decide +kernel
theorem dL_acts_1057 : decode cL_acts 1057 = .ok (.if_icmp .ne 30, 3) := by decide +kernel
theorem dL_acts_1060 : decode cL_acts 1060 = .ok (.aload_n 0, 1) := by decide +kernel
theorem dL_acts_1061 : decode cL_acts 1061 = .ok (.iload 12, 2) := by decide +kernel
theorem dL_acts_1063 : decode cL_acts 1063 = .ok (.invokestatic 119, 3) := by decide +kernel
theorem dL_acts_1066 : decode cL_acts 1066 = .ok (.bipush (-72), 2) := by decide +kernel
theorem dL_acts_1068 : decode cL_acts 1068 = .ok (.if_icmp .ne 17, 3) := by decide +kernel
theorem dL_acts_1071 : decode cL_acts 1071 = .ok (.aload_n 0, 1) := by decide +kernel
theorem dL_acts_1072 : decode cL_acts 1072 = .ok (.iconst (-1), 1) := by decide +kernel
theorem dL_acts_1073 : decode cL_acts 1073 = .ok (.invokestatic 119, 3) := by decide +kernel
theorem dL_acts_1076 : decode cL_acts 1076 = .ok (.bipush (-72), 2) := by decide +kernel
theorem dL_acts_1078 : decode cL_acts 1078 = .ok (.if_icmp .ne 7, 3) := by decide +kernel
theorem dL_acts_1081 : decode cL_acts 1081 = .ok (.iconst 1, 1) := by decide +kernel
theorem dL_acts_1082 : decode cL_acts 1082 = .ok (.goto 4, 3) := by decide +kernel
theorem dL_acts_1085 : decode cL_acts 1085 = .ok (.iconst 0, 1) := by decide +kernel
theorem dL_acts_1086 : decode cL_acts 1086 = .ok (.ireturn, 1) := by decide +kernel
theorem dL_acts_1087 : decode cL_acts 1087 = .ok (.aload 9, 2) := by decide +kernel
theorem dL_acts_1089 : decode cL_acts 1089 = .ok (.iload 12, 2) := by decide +kernel
theorem dL_acts_1091 : decode cL_acts 1091 = .ok (.iaload, 1) := by decide +kernel
theorem dL_acts_1092 : decode cL_acts 1092 = .ok (.ifCond .ne 20, 3) := by decide +kernel
theorem dL_acts_1095 : decode cL_acts 1095 = .ok (.aload_n 0, 1) := by decide +kernel
theorem dL_acts_1096 : decode cL_acts 1096 = .ok (.iload 12, 2) := by decide +kernel
theorem dL_acts_1098 : decode cL_acts 1098 = .ok (.invokestatic 119, 3) := by decide +kernel
theorem dL_acts_1101 : decode cL_acts 1101 = .ok (.bipush (-73), 2) := by decide +kernel
theorem dL_acts_1103 : decode cL_acts 1103 = .ok (.if_icmp .ne 7, 3) := by decide +kernel
theorem dL_acts_1106 : decode cL_acts 1106 = .ok (.iconst 1, 1) := by decide +kernel
theorem dL_acts_1107 : decode cL_acts 1107 = .ok (.goto 4, 3) := by decide +kernel
theorem dL_acts_1110 : decode cL_acts 1110 = .ok (.iconst 0, 1) := by decide +kernel
theorem dL_acts_1111 : decode cL_acts 1111 = .ok (.ireturn, 1) := by decide +kernel
theorem dL_acts_1112 : decode cL_acts 1112 = .ok (.aload 9, 2) := by decide +kernel
theorem dL_acts_1114 : decode cL_acts 1114 = .ok (.iload 12, 2) := by decide +kernel
theorem dL_acts_1116 : decode cL_acts 1116 = .ok (.iconst 0, 1) := by decide +kernel
theorem dL_acts_1117 : decode cL_acts 1117 = .ok (.iastore, 1) := by decide +kernel
theorem dL_acts_1118 : decode cL_acts 1118 = .ok (.iconst 0, 1) := by decide +kernel
theorem dL_acts_1119 : decode cL_acts 1119 = .ok (.istore 13, 2) := by decide +kernel
theorem dL_acts_1121 : decode cL_acts 1121 = .ok (.iconst 0, 1) := by decide +kernel
theorem dL_acts_1122 : decode cL_acts 1122 = .ok (.istore 14, 2) := by decide +kernel
theorem dL_acts_1124 : decode cL_acts 1124 = .ok (.iload 14, 2) := by decide +kernel
theorem dL_acts_1126 : decode cL_acts 1126 = .ok (.aload 10, 2) := by decide +kernel
theorem dL_acts_1128 : decode cL_acts 1128 = .ok (.bipush 6, 2) := by decide +kernel
theorem dL_acts_1130 : decode cL_acts 1130 = .ok (.iaload, 1) := by decide +kernel
theorem dL_acts_1131 : decode cL_acts 1131 = .ok (.if_icmp .ge 27, 3) := by decide +kernel
theorem dL_acts_1134 : decode cL_acts 1134 = .ok (.iload 13, 2) := by decide +kernel
theorem dL_acts_1136 : decode cL_acts 1136 = .ok (.aload 9, 2) := by decide +kernel
theorem dL_acts_1138 : decode cL_acts 1138 = .ok (.iload 14, 2) := by decide +kernel
theorem dL_acts_1140 : decode cL_acts 1140 = .ok (.iaload, 1) := by decide +kernel
theorem dL_acts_1141 : decode cL_acts 1141 = .ok (.ifCond .eq 7, 3) := by decide +kernel
theorem dL_acts_1144 : decode cL_acts 1144 = .ok (.iconst 1, 1) := by decide +kernel
theorem dL_acts_1145 : decode cL_acts 1145 = .ok (.goto 4, 3) := by decide +kernel
theorem dL_acts_1148 : decode cL_acts 1148 = .ok (.iconst 0, 1) := by decide +kernel
theorem dL_acts_1149 : decode cL_acts 1149 = .ok (.iadd, 1) := by decide +kernel
theorem dL_acts_1150 : decode cL_acts 1150 = .ok (.istore 13, 2) := by decide +kernel
theorem dL_acts_1152 : decode cL_acts 1152 = .ok (.iinc 14 1, 3) := by decide +kernel
theorem dL_acts_1155 : decode cL_acts 1155 = .ok (.goto (-31), 3) := by decide +kernel
theorem dL_acts_1158 : decode cL_acts 1158 = .ok (.aload_n 0, 1) := by decide +kernel
theorem dL_acts_1159 : decode cL_acts 1159 = .ok (.iload 12, 2) := by decide +kernel
theorem dL_acts_1161 : decode cL_acts 1161 = .ok (.invokestatic 119, 3) := by decide +kernel
theorem dL_acts_1164 : decode cL_acts 1164 = .ok (.iload 13, 2) := by decide +kernel
theorem dL_acts_1166 : decode cL_acts 1166 = .ok (.if_icmp .ne 7, 3) := by decide +kernel
theorem dL_acts_1169 : decode cL_acts 1169 = .ok (.iconst 1, 1) := by decide +kernel
theorem dL_acts_1170 : decode cL_acts 1170 = .ok (.goto 4, 3) := by decide +kernel
theorem dL_acts_1173 : decode cL_acts 1173 = .ok (.iconst 0, 1) := by decide +kernel
theorem dL_acts_1174 : decode cL_acts 1174 = .ok (.ireturn, 1) := by decide +kernel
