set_option maxRecDepth 20000 in
theorem gc_isTold_0 : GoodIn wsL_law [.code yL_isTold cL_isTold 18 (some .boolean)] := goodIn_one (List.mem_append_left _ (List.mem_append_left _ (List.mem_append_left _ (List.mem_append_left _ (List.mem_append_left _ (List.mem_append_left _ (List.mem_append_left _ (List.mem_append_left _ (List.mem_append_left _ (List.mem_append_left _ (List.mem_append_right _ (List.mem_append_right _ (List.mem_append_left _ (List.mem_of_getElem? (l := wsL_law0_r3) (i := 0) rfl)))))))))))))) (by decide +kernel)
set_option maxRecDepth 20000 in
theorem gc_isTold_1 : GoodIn wsL_law wsL_isTold_r1 := goodIn_r _ [49, 50, 47, 51, 52, 53, 54, 55, 56, 57, 58, 59, 60, 61, 2, 62, 13, 17, 63, 64, 65, 66, 67, 68] (by decide +kernel) (by decide +kernel)
set_option maxRecDepth 20000 in
theorem gc_isTold_2 : GoodIn wsL_law wsL_isTold_r2 := goodIn_r _ [69, 70, 71, 12, 72, 73, 74, 75, 76, 77, 78, 32, 79, 80, 81, 82, 83, 84, 85, 86, 87, 88, 89, 90] (by decide +kernel) (by decide +kernel)
set_option maxRecDepth 20000 in
theorem gc_isTold_3 : GoodIn wsL_law wsL_isTold_r3 := goodIn_r _ [91, 92, 93, 94, 95, 96, 97, 98, 99, 100, 101, 102, 103, 104, 105, 106, 107, 108, 109, 110, 111, 112, 113, 114] (by decide +kernel) (by decide +kernel)
set_option maxRecDepth 20000 in
theorem gc_isTold_4 : GoodIn wsL_law wsL_isTold_r4 := goodIn_r _ [115, 116, 117, 118, 119, 120, 26, 121, 122, 123, 25, 124, 125, 44, 126, 127, 128, 129, 130, 131, 132, 133, 134, 135] (by decide +kernel) (by decide +kernel)
set_option maxRecDepth 20000 in
theorem gc_isTold_5 : GoodIn wsL_law wsL_isTold_r5 := goodIn_r _ [136, 137, 138, 139, 140, 141, 142, 143, 144, 145, 146, 147, 148, 21, 149, 150, 151, 20, 152, 153, 154, 155, 156, 157] (by decide +kernel) (by decide +kernel)
set_option maxRecDepth 20000 in
theorem gc_isTold_6 : GoodIn wsL_law wsL_isTold_r6 := goodIn_r _ [158, 159, 160, 161, 162, 163, 164, 165, 166, 167, 168, 169, 170, 171, 172, 173, 174, 175, 176, 177, 178, 40, 179, 180] (by decide +kernel) (by decide +kernel)
set_option maxRecDepth 20000 in
theorem gc_isTold_7 : GoodIn wsL_law wsL_isTold_r7 := goodIn_r _ [181, 182, 183, 184, 185, 186, 187, 188, 189, 16, 190, 191, 192, 193, 194, 195, 196, 197, 198, 199, 200, 201, 202, 203] (by decide +kernel) (by decide +kernel)
set_option maxRecDepth 20000 in
theorem gc_isTold_8 : GoodIn wsL_law wsL_isTold_r8 := goodIn_r _ [204, 205, 206, 207, 208, 209, 210, 211, 212, 213, 214, 215, 216, 217, 218, 219, 220, 28, 221, 222, 223, 224, 225, 226] (by decide +kernel) (by decide +kernel)
set_option maxRecDepth 20000 in
theorem gc_isTold_9 : GoodIn wsL_law wsL_isTold_r9 := goodIn_r _ [227, 228, 229, 230, 231, 232, 233, 234, 235, 236, 237, 238, 239, 240, 241, 242, 243, 244, 245, 246, 247, 248, 249, 250] (by decide +kernel) (by decide +kernel)
set_option maxRecDepth 20000 in
theorem gc_isTold_10 : GoodIn wsL_law wsL_isTold_r10 := goodIn_r _ [251, 252, 253, 254, 255, 256, 257, 258, 259, 260, 261, 262, 263, 264, 265, 266, 267, 268, 269, 270, 271, 272, 273, 274] (by decide +kernel) (by decide +kernel)
set_option maxRecDepth 20000 in
theorem gc_isTold_11 : GoodIn wsL_law wsL_isTold_r11 := goodIn_r _ [275, 276, 277, 278, 279, 280, 281, 282, 283, 284, 285, 286, 287, 288, 289, 290, 291, 292, 293, 294, 295, 27, 22, 296] (by decide +kernel) (by decide +kernel)
set_option maxRecDepth 20000 in
theorem gc_isTold_12 : GoodIn wsL_law wsL_isTold_r12 := goodIn_r _ [297, 298, 299, 300, 301, 302, 303, 304, 305] (by decide +kernel) (by decide +kernel)
set_option maxRecDepth 20000 in
theorem ggL_law_L_isTold : GoodIn wsL_law wsL_isTold := goodIn_cons gc_isTold_0 (goodIn_app (goodIn_app (goodIn_app (goodIn_app (goodIn_app (goodIn_app (goodIn_app (goodIn_app (goodIn_app gc_isTold_1 (goodIn_app gc_isTold_2 (goodIn_app gc_isTold_3 (goodIn_app gc_isTold_4 (goodIn_app gc_isTold_5 (goodIn_app gc_isTold_6 (goodIn_app gc_isTold_7 (goodIn_app gc_isTold_8 (goodIn_app gc_isTold_9 (goodIn_app gc_isTold_10 (goodIn_app gc_isTold_11 (gc_isTold_12)))))))))))) (goodIn_sub inlX4 (by decide +kernel))) (goodIn_sub inlX1 (by decide +kernel))) (goodIn_sub inlX3 (by decide +kernel))) (goodIn_sub inlX2 (by decide +kernel))) (goodIn_sub inlX0 (by decide +kernel))) (goodIn_sub (fun _ h => gv_125 _ h) (by decide +kernel))) (goodIn_sub (fun _ h => gv_225 _ h) (by decide +kernel))) (goodIn_sub (fun _ h => gv_70 _ h) (by decide +kernel)))
