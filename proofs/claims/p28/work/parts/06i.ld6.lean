set_option maxRecDepth 20000 in
theorem gc_acts_0 : GoodIn wsL_law [.code yL_acts cL_acts 15 (some .boolean)] := goodIn_one (List.mem_append_left _ (List.mem_append_left _ (List.mem_append_left _ (List.mem_append_left _ (List.mem_append_left _ (List.mem_append_left _ (List.mem_append_left _ (List.mem_append_left _ (List.mem_append_left _ (List.mem_append_left _ (List.mem_append_right _ (List.mem_append_right _ (List.mem_append_right _ (List.mem_append_right _ (List.mem_append_right _ (List.mem_append_right _ (List.mem_append_right _ (List.mem_append_right _ (List.mem_append_right _ (List.mem_append_right _ (List.mem_append_right _ (List.mem_append_right _ (List.mem_append_right _ (List.mem_append_right _ (List.mem_append_left _ (List.mem_of_getElem? (l := wsL_law0_r15) (i := 4) rfl)))))))))))))))))))))))))) (by decide +kernel)
set_option maxRecDepth 20000 in
theorem gc_acts_1 : GoodIn wsL_law wsL_acts_r1 := goodIn_r _ [194, 195, 47, 196, 197, 198, 199, 341, 342, 343, 203, 58, 344, 345, 346, 2, 347, 321, 322, 21, 208, 209, 210, 211] (by decide +kernel) (by decide +kernel)
set_option maxRecDepth 20000 in
theorem gc_acts_2 : GoodIn wsL_law wsL_acts_r2 := goodIn_r _ [212, 213, 67, 68, 13, 214, 215, 216, 183, 184, 185, 12, 186, 78, 69, 70, 71, 72, 73, 149, 150, 151, 20, 152] (by decide +kernel) (by decide +kernel)
set_option maxRecDepth 20000 in
theorem gc_acts_3 : GoodIn wsL_law wsL_acts_r3 := goodIn_r _ [153, 285, 286, 287, 348, 349, 350, 351, 17, 300, 301, 302, 303, 304, 305, 217, 218, 219, 220, 26, 28, 221, 222, 223] (by decide +kernel) (by decide +kernel)
set_option maxRecDepth 20000 in
theorem gc_acts_4 : GoodIn wsL_law wsL_acts_r4 := goodIn_r _ [224, 225, 226, 227, 228, 229, 187, 188, 189, 16, 190, 191, 192, 193, 230, 231, 232, 233, 234, 235, 236, 237, 238, 239] (by decide +kernel) (by decide +kernel)
set_option maxRecDepth 20000 in
theorem gc_acts_5 : GoodIn wsL_law wsL_acts_r5 := goodIn_r _ [240, 32, 121, 122, 123, 25, 124, 125, 44, 241, 242, 243, 244, 245, 246, 247, 248, 249, 250, 251, 252, 253, 254, 255] (by decide +kernel) (by decide +kernel)
set_option maxRecDepth 20000 in
theorem gc_acts_6 : GoodIn wsL_law wsL_acts_r6 := goodIn_r _ [256, 257, 258, 259, 260, 261, 100, 101, 102, 103, 104, 87, 75, 76, 77, 262, 263, 264, 265, 266, 267, 268, 269, 83] (by decide +kernel) (by decide +kernel)
set_option maxRecDepth 20000 in
theorem gc_acts_7 : GoodIn wsL_law wsL_acts_r7 := goodIn_r _ [84, 85, 86, 92, 93, 94, 95, 270, 271, 272, 273, 274, 275, 276, 277, 352, 353, 354, 355, 40, 278, 279, 280, 126] (by decide +kernel) (by decide +kernel)
set_option maxRecDepth 20000 in
theorem gc_acts_8 : GoodIn wsL_law wsL_acts_r8 := goodIn_r _ [127, 128, 49, 50, 51, 52, 53, 54, 200, 201, 202, 204, 205, 206, 207, 356, 357, 358, 316, 359, 360, 361, 362, 175] (by decide +kernel) (by decide +kernel)
set_option maxRecDepth 20000 in
theorem gc_acts_9 : GoodIn wsL_law wsL_acts_r9 := goodIn_r _ [176, 177, 178, 363, 364, 365, 366, 367, 368, 369, 370, 371, 372, 373, 374, 375, 376, 377, 378, 379, 22, 380, 381, 382] (by decide +kernel) (by decide +kernel)
set_option maxRecDepth 20000 in
theorem gc_acts_10 : GoodIn wsL_law wsL_acts_r10 := goodIn_r _ [383, 384, 385, 386, 387, 388, 389, 390, 391, 392, 393, 394, 395, 396, 397, 398, 399, 400, 401, 402, 296, 297, 298, 299] (by decide +kernel) (by decide +kernel)
set_option maxRecDepth 20000 in
theorem gc_acts_11 : GoodIn wsL_law wsL_acts_r11 := goodIn_r _ [145, 146, 147, 148, 403, 404, 405, 406, 407, 408, 409, 410, 114, 115, 116, 411, 412, 413, 414, 415, 416, 417, 418, 419] (by decide +kernel) (by decide +kernel)
set_option maxRecDepth 20000 in
theorem gc_acts_12 : GoodIn wsL_law wsL_acts_r12 := goodIn_r _ [420, 421, 422, 117, 118, 119, 120, 423, 424, 425, 426, 427, 428, 429, 430, 431, 432, 433, 434, 435, 436, 437, 438, 439] (by decide +kernel) (by decide +kernel)
set_option maxRecDepth 20000 in
theorem gc_acts_13 : GoodIn wsL_law wsL_acts_r13 := goodIn_r _ [440, 441, 442] (by decide +kernel) (by decide +kernel)
set_option maxRecDepth 20000 in
theorem ggL_law_L_acts : GoodIn wsL_law wsL_acts := goodIn_cons gc_acts_0 (goodIn_app (goodIn_app (goodIn_app (goodIn_app (goodIn_app (goodIn_app (goodIn_app (goodIn_app (goodIn_app gc_acts_1 (goodIn_app gc_acts_2 (goodIn_app gc_acts_3 (goodIn_app gc_acts_4 (goodIn_app gc_acts_5 (goodIn_app gc_acts_6 (goodIn_app gc_acts_7 (goodIn_app gc_acts_8 (goodIn_app gc_acts_9 (goodIn_app gc_acts_10 (goodIn_app gc_acts_11 (goodIn_app gc_acts_12 (gc_acts_13))))))))))))) (goodIn_sub inlX4 (by decide +kernel))) (goodIn_sub inlX1 (by decide +kernel))) (goodIn_sub inlX0 (by decide +kernel))) (goodIn_sub inlX3 (by decide +kernel))) (goodIn_sub inlX2 (by decide +kernel))) (goodIn_sub (fun _ h => gv_56 _ h) (by decide +kernel))) (goodIn_sub (fun _ h => gv_70 _ h) (by decide +kernel))) (goodIn_sub (fun _ h => gv_125 _ h) (by decide +kernel)))
set_option maxRecDepth 20000 in
theorem gc_builds_0 : GoodIn wsL_law [.code yL_builds cL_builds 7 (some .boolean)] := goodIn_one (List.mem_append_left _ (List.mem_append_left _ (List.mem_append_left _ (List.mem_append_left _ (List.mem_append_left _ (List.mem_append_left _ (List.mem_append_left _ (List.mem_append_left _ (List.mem_append_left _ (List.mem_append_left _ (List.mem_append_right _ (List.mem_append_right _ (List.mem_append_right _ (List.mem_append_right _ (List.mem_append_right _ (List.mem_append_right _ (List.mem_append_right _ (List.mem_append_right _ (List.mem_append_right _ (List.mem_append_right _ (List.mem_append_right _ (List.mem_append_right _ (List.mem_append_right _ (List.mem_append_left _ (List.mem_of_getElem? (l := wsL_law0_r14) (i := 0) rfl))))))))))))))))))))))))) (by decide +kernel)
set_option maxRecDepth 20000 in
theorem gc_builds_1 : GoodIn wsL_law wsL_builds_r1 := goodIn_r _ [313, 314, 47, 315, 316, 317, 318, 319, 2, 320, 321, 322, 13, 133, 134, 135, 12, 136, 73, 323, 324, 325, 326, 229] (by decide +kernel) (by decide +kernel)
set_option maxRecDepth 20000 in
theorem gc_builds_2 : GoodIn wsL_law wsL_builds_r2 := goodIn_r _ [104, 197, 198, 199, 327, 328, 329, 58, 203, 330, 331, 332, 333, 212, 213, 63, 64, 65, 66, 67, 68, 69, 70, 71] (by decide +kernel) (by decide +kernel)
set_option maxRecDepth 20000 in
theorem gc_builds_3 : GoodIn wsL_law wsL_builds_r3 := goodIn_r _ [72, 141, 142, 143, 144, 78, 334, 335, 336, 337, 32, 261] (by decide +kernel) (by decide +kernel)
set_option maxRecDepth 20000 in
theorem ggL_law_L_builds : GoodIn wsL_law wsL_builds := goodIn_cons gc_builds_0 (goodIn_app (goodIn_app (goodIn_app (goodIn_app (goodIn_app (goodIn_app gc_builds_1 (goodIn_app gc_builds_2 (gc_builds_3))) (goodIn_sub inlX4 (by decide +kernel))) (goodIn_sub inlX1 (by decide +kernel))) (goodIn_sub (fun _ h => gv_56 _ h) (by decide +kernel))) (goodIn_sub (fun _ h => gv_70 _ h) (by decide +kernel))) (goodIn_sub (fun _ h => gv_125 _ h) (by decide +kernel)))
