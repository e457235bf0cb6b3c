set_option maxRecDepth 20000 in
theorem ggL_law_L_print_r3 : GoodIn wsL_law wsL_print_r3 := goodIn_r _ [153, 154, 155, 156, 157, 158, 159, 160, 161, 37, 42, 162, 163, 164, 165, 166, 167, 168, 169, 38, 170, 171, 172, 20] (by decide +kernel) (by decide +kernel)
set_option maxRecDepth 20000 in
theorem ggL_law_L_print_r4 : GoodIn wsL_law wsL_print_r4 := goodIn_r _ [173, 108, 49, 174, 175, 176, 177, 178, 179, 180, 109, 181, 182, 183, 184, 185, 186, 187, 188, 189, 190, 191, 36, 192] (by decide +kernel) (by decide +kernel)
set_option maxRecDepth 20000 in
theorem ggL_law_L_print_r5 : GoodIn wsL_law wsL_print_r5 := goodIn_r _ [193, 194, 195, 196, 197, 198, 199, 200, 201, 202, 39, 40] (by decide +kernel) (by decide +kernel)
set_option maxRecDepth 20000 in
theorem ggL_law_L_print_x4 : GoodIn wsL_law wsX40 := goodIn_r _ [461, 462, 463, 464, 465, 466, 467] (by decide +kernel) (by decide +kernel)
set_option maxRecDepth 20000 in
theorem ggL_law_L_print_x1 : GoodIn wsL_law wsX10 := goodIn_r _ [468, 469, 470, 471, 472, 473, 474, 475, 476, 477, 478, 479, 480, 481, 482, 483, 484] (by decide +kernel) (by decide +kernel)
set_option maxRecDepth 20000 in
theorem ggL_law_L_print_x0 : GoodIn wsL_law wsX00 := goodIn_r _ [485, 486, 487, 488] (by decide +kernel) (by decide +kernel)
set_option maxRecDepth 20000 in
theorem ggL_law_L_print : GoodIn wsL_law wsL_print := goodIn_ca (goodIn_ca (goodIn_cc ggL_law_L_print_h (goodIn_app (goodIn_app (goodIn_app (goodIn_app ggL_law_L_print_r1 (goodIn_app ggL_law_L_print_r2 (goodIn_app ggL_law_L_print_r3 (goodIn_app ggL_law_L_print_r4 (ggL_law_L_print_r5))))) ggL_law_L_print_x4) ggL_law_L_print_x1) ggL_law_L_print_x0)) (goodIn_sub (fun _ h => List.mem_append_left _ (List.mem_append_right _ h)) (by decide +kernel))) (goodIn_sub (fun _ h => List.mem_append_right _ h) (by decide +kernel))
set_option maxRecDepth 20000 in
theorem gL_law_L_print : GoodIn wsL_law (va_wsS RL 95 yL_print wsL_print) := goodIn_app (goodIn_of _ (by decide +kernel)) ggL_law_L_print
set_option maxRecDepth 20000 in
theorem ggL_law_L_acts_h : GoodIn wsL_law [.code yL_acts cL_acts 5 (some .int)] := goodIn_r _ [441] (by decide +kernel) (by decide +kernel)
set_option maxRecDepth 20000 in
theorem ggL_law_L_acts_r1 : GoodIn wsL_law wsL_acts_r1 := goodIn_r _ [123, 124, 61, 125, 126, 5, 127, 128, 129, 2, 130, 131, 132, 16, 133, 134, 135, 15, 136, 83, 84, 92, 91, 86] (by decide +kernel) (by decide +kernel)
set_option maxRecDepth 20000 in
theorem ggL_law_L_acts_r2 : GoodIn wsL_law wsL_acts_r2 := goodIn_r _ [87, 88, 34, 89, 85, 137, 138, 139, 140, 141, 142, 143, 435, 436, 437, 438, 203, 204, 205, 63, 3, 206, 207, 208] (by decide +kernel) (by decide +kernel)
set_option maxRecDepth 20000 in
theorem ggL_law_L_acts_r3 : GoodIn wsL_law wsL_acts_r3 := goodIn_r _ [209, 68, 69, 210, 21, 22, 211, 212, 213, 214, 70, 17, 75, 76, 77, 78, 79, 80, 81, 82, 90, 36, 37, 38] (by decide +kernel) (by decide +kernel)
set_option maxRecDepth 20000 in
theorem ggL_law_L_acts_r4 : GoodIn wsL_law wsL_acts_r4 := goodIn_r _ [39, 40, 42, 93, 94, 95, 96, 97, 98, 99, 100, 101, 102, 103, 104, 105, 20, 106, 47, 107, 108, 49, 109, 110] (by decide +kernel) (by decide +kernel)
set_option maxRecDepth 20000 in
theorem ggL_law_L_acts_r5 : GoodIn wsL_law wsL_acts_r5 := goodIn_r _ [111, 112, 113, 114, 215, 216, 217, 218, 219, 220, 221, 222, 223, 224, 225, 174, 175, 176, 226, 162, 163, 164, 165, 227] (by decide +kernel) (by decide +kernel)
set_option maxRecDepth 20000 in
theorem ggL_law_L_acts_r6 : GoodIn wsL_law wsL_acts_r6 := goodIn_r _ [228, 229, 230, 231, 232, 233, 234, 235, 236, 237, 238, 239, 240, 241, 242, 243, 244, 245, 246, 247, 248, 249, 250, 312] (by decide +kernel) (by decide +kernel)
set_option maxRecDepth 20000 in
theorem ggL_law_L_acts_r7 : GoodIn wsL_law wsL_acts_r7 := goodIn_r _ [313, 314, 147, 6, 315, 316, 317, 318, 152, 153, 289, 290, 291, 319, 320, 321, 322, 301, 302, 303, 304, 305, 306, 307] (by decide +kernel) (by decide +kernel)
set_option maxRecDepth 20000 in
theorem ggL_law_L_acts_r8 : GoodIn wsL_law wsL_acts_r8 := goodIn_r _ [154, 155, 156, 157, 292, 266, 267, 268, 269, 308, 309, 310, 311, 282, 283, 284, 285, 286, 287, 288, 293, 294, 295, 296] (by decide +kernel) (by decide +kernel)
set_option maxRecDepth 20000 in
theorem ggL_law_L_acts_r9 : GoodIn wsL_law wsL_acts_r9 := goodIn_r _ [188, 189, 190, 191, 297, 298, 299, 300, 278, 279, 280, 281, 48, 251, 252, 253, 254, 255, 256, 257, 258, 259, 260, 261] (by decide +kernel) (by decide +kernel)
set_option maxRecDepth 20000 in
theorem ggL_law_L_acts_r10 : GoodIn wsL_law wsL_acts_r10 := goodIn_r _ [262, 263, 264, 265, 270, 271, 272, 273, 274, 275, 276, 277, 185, 186, 187] (by decide +kernel) (by decide +kernel)
set_option maxRecDepth 20000 in
theorem ggL_law_L_acts_x4 : GoodIn wsL_law wsX40 := goodIn_r _ [461, 462, 463, 464, 465, 466, 467] (by decide +kernel) (by decide +kernel)
set_option maxRecDepth 20000 in
theorem ggL_law_L_acts_x1 : GoodIn wsL_law wsX10 := goodIn_r _ [468, 469, 470, 471, 472, 473, 474, 475, 476, 477, 478, 479, 480, 481, 482, 483, 484] (by decide +kernel) (by decide +kernel)
