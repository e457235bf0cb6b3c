set_option maxRecDepth 20000 in
theorem ggL_law_L_isBest_r1 : GoodIn wsL_law wsL_isBest_r1 := goodIn_r _ [374, 375, 61, 376, 147, 6, 377, 378, 379, 2, 380, 152, 153, 16, 26, 154, 155, 156, 15, 157, 83, 348, 349, 350] (by decide +kernel) (by decide +kernel)
set_option maxRecDepth 20000 in
theorem ggL_law_L_isBest_r2 : GoodIn wsL_law wsL_isBest_r2 := goodIn_r _ [25, 351, 352, 53, 353, 186, 20, 187, 111, 112, 113, 108, 47, 114, 96, 97, 98, 354, 175, 176, 381, 382, 383, 384] (by decide +kernel) (by decide +kernel)
set_option maxRecDepth 20000 in
theorem ggL_law_L_isBest_r3 : GoodIn wsL_law wsL_isBest_r3 := goodIn_r _ [385, 368, 369, 370, 54, 371, 372, 373, 359, 138, 139, 140, 141, 142, 143, 360, 361, 362, 126, 5, 363, 364, 365, 366] (by decide +kernel) (by decide +kernel)
set_option maxRecDepth 20000 in
theorem ggL_law_L_isBest_r4 : GoodIn wsL_law wsL_isBest_r4 := goodIn_r _ [131, 132, 258, 259, 260, 367, 428, 429, 430] (by decide +kernel) (by decide +kernel)
set_option maxRecDepth 20000 in
theorem ggL_law_L_isBest_x4 : GoodIn wsL_law wsX40 := goodIn_r _ [461, 462, 463, 464, 465, 466, 467] (by decide +kernel) (by decide +kernel)
set_option maxRecDepth 20000 in
theorem ggL_law_L_isBest_x1 : GoodIn wsL_law wsX10 := goodIn_r _ [468, 469, 470, 471, 472, 473, 474, 475, 476, 477, 478, 479, 480, 481, 482, 483, 484] (by decide +kernel) (by decide +kernel)
set_option maxRecDepth 20000 in
theorem ggL_law_L_isBest_x2 : GoodIn wsL_law wsX20 := goodIn_r _ [489, 490, 491] (by decide +kernel) (by decide +kernel)
set_option maxRecDepth 20000 in
theorem ggL_law_L_isBest_x0 : GoodIn wsL_law wsX00 := goodIn_r _ [485, 486, 487, 488] (by decide +kernel) (by decide +kernel)
set_option maxRecDepth 20000 in
theorem ggL_law_L_isBest : GoodIn wsL_law wsL_isBest := goodIn_ca (goodIn_ca (goodIn_cc ggL_law_L_isBest_h (goodIn_app (goodIn_app (goodIn_app (goodIn_app (goodIn_app ggL_law_L_isBest_r1 (goodIn_app ggL_law_L_isBest_r2 (goodIn_app ggL_law_L_isBest_r3 (ggL_law_L_isBest_r4)))) ggL_law_L_isBest_x4) ggL_law_L_isBest_x1) ggL_law_L_isBest_x2) ggL_law_L_isBest_x0)) (goodIn_sub (fun _ h => List.mem_append_right _ h) (by decide +kernel))) (goodIn_sub (fun _ h => List.mem_append_left _ (List.mem_append_right _ h)) (by decide +kernel))
set_option maxRecDepth 20000 in
theorem gL_law_L_isBest : GoodIn wsL_law (va_wsS RL 170 yL_isBest wsL_isBest) := goodIn_app (goodIn_of _ (by decide +kernel)) ggL_law_L_isBest
set_option maxRecDepth 20000 in
theorem ggL_law_L_isProved_h : GoodIn wsL_law [.code yL_isProved cL_isProved 12 (some .boolean)] := goodIn_r _ [450] (by decide +kernel) (by decide +kernel)
set_option maxRecDepth 20000 in
theorem ggL_law_L_isProved_r1 : GoodIn wsL_law wsL_isProved_r1 := goodIn_r _ [3, 118, 119, 61, 120, 121, 122, 123, 124, 125, 126, 5, 127, 128, 129, 2, 130, 131, 132, 16, 133, 134, 135, 15] (by decide +kernel) (by decide +kernel)
set_option maxRecDepth 20000 in
theorem ggL_law_L_isProved_r2 : GoodIn wsL_law wsL_isProved_r2 := goodIn_r _ [136, 83, 84, 92, 91, 86, 87, 88, 34, 89, 85, 137, 138, 139, 140, 141, 142, 143, 144, 145, 146, 147, 6, 148] (by decide +kernel) (by decide +kernel)
set_option maxRecDepth 20000 in
theorem ggL_law_L_isProved_r3 : GoodIn wsL_law wsL_isProved_r3 := goodIn_r _ [149, 150, 151, 152, 153, 154, 155, 156, 157, 158, 159, 160, 161, 37, 42, 162, 163, 164, 165, 166, 167, 168, 169, 38] (by decide +kernel) (by decide +kernel)
set_option maxRecDepth 20000 in
theorem ggL_law_L_isProved_r4 : GoodIn wsL_law wsL_isProved_r4 := goodIn_r _ [170, 171, 172, 20, 173, 108, 49, 174, 175, 176, 177, 178, 179, 180, 109, 181, 182, 183, 184, 185, 186, 187, 188, 189] (by decide +kernel) (by decide +kernel)
set_option maxRecDepth 20000 in
theorem ggL_law_L_isProved_r5 : GoodIn wsL_law wsL_isProved_r5 := goodIn_r _ [190, 191, 36, 192, 193, 194, 195, 196, 197, 198, 199, 200, 201, 202, 39, 40, 401, 402, 403, 404, 334, 335, 336, 337] (by decide +kernel) (by decide +kernel)
set_option maxRecDepth 20000 in
theorem ggL_law_L_isProved_r6 : GoodIn wsL_law wsL_isProved_r6 := goodIn_r _ [338, 339, 340, 289, 290, 291, 330, 331, 332, 333, 47, 227, 228, 229, 110, 111, 112, 113, 114, 96, 97, 98, 451, 452] (by decide +kernel) (by decide +kernel)
set_option maxRecDepth 20000 in
theorem ggL_law_L_isProved_r7 : GoodIn wsL_law wsL_isProved_r7 := goodIn_r _ [453, 408, 454, 455, 456, 457, 413, 414, 415, 282, 283, 284, 63, 285, 286, 287, 288, 68, 69, 292, 266, 267, 268, 269] (by decide +kernel) (by decide +kernel)
set_option maxRecDepth 20000 in
theorem ggL_law_L_isProved_r8 : GoodIn wsL_law wsL_isProved_r8 := goodIn_r _ [211, 212, 213, 214, 70, 17, 75, 76, 77, 78, 79, 80, 81, 82, 90, 93, 94, 95, 99, 100, 101, 102, 103, 104] (by decide +kernel) (by decide +kernel)
set_option maxRecDepth 20000 in
theorem ggL_law_L_isProved_r9 : GoodIn wsL_law wsL_isProved_r9 := goodIn_r _ [105, 106, 107, 293, 294, 295, 296, 297, 298, 299, 300, 278, 279, 280, 281, 48, 222, 223, 224, 225, 59, 60, 62, 64] (by decide +kernel) (by decide +kernel)
set_option maxRecDepth 20000 in
theorem ggL_law_L_isProved_r10 : GoodIn wsL_law wsL_isProved_r10 := goodIn_r _ [65, 66, 67, 71, 72, 73, 74] (by decide +kernel) (by decide +kernel)
set_option maxRecDepth 20000 in
theorem ggL_law_L_isProved_x4 : GoodIn wsL_law wsX40 := goodIn_r _ [461, 462, 463, 464, 465, 466, 467] (by decide +kernel) (by decide +kernel)
