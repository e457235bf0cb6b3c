set_option maxRecDepth 20000 in
theorem ggL_law_L_acts_x0 : GoodIn wsL_law wsX00 := goodIn_r _ [485, 486, 487, 488] (by decide +kernel) (by decide +kernel)
set_option maxRecDepth 20000 in
theorem ggL_law_L_acts : GoodIn wsL_law wsL_acts := goodIn_ca (goodIn_ca (goodIn_ca (goodIn_cc ggL_law_L_acts_h (goodIn_app (goodIn_app (goodIn_app (goodIn_app ggL_law_L_acts_r1 (goodIn_app ggL_law_L_acts_r2 (goodIn_app ggL_law_L_acts_r3 (goodIn_app ggL_law_L_acts_r4 (goodIn_app ggL_law_L_acts_r5 (goodIn_app ggL_law_L_acts_r6 (goodIn_app ggL_law_L_acts_r7 (goodIn_app ggL_law_L_acts_r8 (goodIn_app ggL_law_L_acts_r9 (ggL_law_L_acts_r10)))))))))) ggL_law_L_acts_x4) ggL_law_L_acts_x1) ggL_law_L_acts_x0)) (goodIn_sub (fun _ h => List.mem_append_left _ (List.mem_append_right _ h)) (by decide +kernel))) (goodIn_sub (fun _ h => List.mem_append_left _ (List.mem_append_left _ (List.mem_append_right _ h))) (by decide +kernel))) (goodIn_sub (fun _ h => List.mem_append_right _ h) (by decide +kernel))
set_option maxRecDepth 20000 in
theorem gL_law_L_acts : GoodIn wsL_law (va_wsS RL 163 yL_acts wsL_acts) := goodIn_app (goodIn_of _ (by decide +kernel)) ggL_law_L_acts
set_option maxRecDepth 20000 in
theorem ggL_law_L_value : GoodIn wsL_law wsL_value := goodIn_ca (goodIn_r _ [125, 126, 5, 127, 128, 129, 2, 130, 131, 132, 16, 133, 134, 135, 15, 136, 83, 84, 92, 91, 86, 87, 88, 34, 89, 85, 137, 138, 139, 140, 141, 142, 143, 461, 462, 463, 464, 465, 466, 467, 468, 469, 470, 471, 472, 473, 474, 475, 476, 477, 478, 479, 480, 481, 482, 483, 484] (by decide +kernel) (by decide +kernel)) (goodIn_sub (fun _ h => List.mem_append_left _ (List.mem_append_right _ h)) (by decide +kernel))
set_option maxRecDepth 20000 in
theorem gL_law_L_value : GoodIn wsL_law (va_wsS RL 85 yL_value wsL_value) := goodIn_app (goodIn_of _ (by decide +kernel)) ggL_law_L_value
set_option maxRecDepth 20000 in
theorem ggL_law_L_isAsked_h : GoodIn wsL_law [.code yL_isAsked cL_isAsked 13 (some .boolean)] := goodIn_r _ [444] (by decide +kernel) (by decide +kernel)
set_option maxRecDepth 20000 in
theorem ggL_law_L_isAsked_r1 : GoodIn wsL_law wsL_isAsked_r1 := goodIn_r _ [3, 401, 402, 403, 2, 404, 16, 360, 361, 61, 362, 147, 126, 6, 5, 363, 364, 365, 366, 152, 153, 131, 132, 26] (by decide +kernel) (by decide +kernel)
set_option maxRecDepth 20000 in
theorem ggL_law_L_isAsked_r2 : GoodIn wsL_law wsL_isAsked_r2 := goodIn_r _ [154, 155, 156, 15, 157, 83, 258, 259, 260, 348, 349, 350, 25, 351, 352, 53, 353, 186, 20, 187, 111, 112, 113, 108] (by decide +kernel) (by decide +kernel)
set_option maxRecDepth 20000 in
theorem ggL_law_L_isAsked_r3 : GoodIn wsL_law wsL_isAsked_r3 := goodIn_r _ [47, 114, 96, 97, 98, 354, 175, 176, 367, 368, 369, 370, 54, 371, 372, 373, 359, 138, 139, 140, 141, 142, 143, 341] (by decide +kernel) (by decide +kernel)
set_option maxRecDepth 20000 in
theorem ggL_law_L_isAsked_r4 : GoodIn wsL_law wsL_isAsked_r4 := goodIn_r _ [342, 343, 344, 345, 346, 347, 355, 356, 357, 358, 118, 119, 120, 121, 122, 123, 124, 125, 127, 128, 129, 130, 133, 134] (by decide +kernel) (by decide +kernel)
set_option maxRecDepth 20000 in
theorem ggL_law_L_isAsked_r5 : GoodIn wsL_law wsL_isAsked_r5 := goodIn_r _ [135, 136, 84, 92, 91, 86, 87, 88, 34, 89, 85, 137, 144, 145, 146, 148, 149, 150, 151, 158, 159, 160, 161, 37] (by decide +kernel) (by decide +kernel)
set_option maxRecDepth 20000 in
theorem ggL_law_L_isAsked_r6 : GoodIn wsL_law wsL_isAsked_r6 := goodIn_r _ [42, 162, 163, 164, 165, 166, 167, 168, 169, 38, 170, 171, 172, 173, 49, 174, 177, 178, 179, 180, 109, 181, 182, 183] (by decide +kernel) (by decide +kernel)
set_option maxRecDepth 20000 in
theorem ggL_law_L_isAsked_r7 : GoodIn wsL_law wsL_isAsked_r7 := goodIn_r _ [184, 185, 188, 189, 190, 191, 36, 192, 193, 194, 195, 196, 197, 198, 199, 200, 201, 202, 39, 40, 251, 252, 253, 63] (by decide +kernel) (by decide +kernel)
set_option maxRecDepth 20000 in
theorem ggL_law_L_isAsked_r8 : GoodIn wsL_law wsL_isAsked_r8 := goodIn_r _ [254, 255, 256, 257, 68, 69, 261, 262, 263, 264, 90, 265, 266, 267, 268, 269, 211, 212, 213, 214, 70, 17, 75, 76] (by decide +kernel) (by decide +kernel)
set_option maxRecDepth 20000 in
theorem ggL_law_L_isAsked_r9 : GoodIn wsL_law wsL_isAsked_r9 := goodIn_r _ [77, 78, 79, 80, 81, 82, 93, 94, 95, 99, 100, 101, 102, 103, 104, 105, 106, 107, 110, 270, 271, 272, 273, 274] (by decide +kernel) (by decide +kernel)
set_option maxRecDepth 20000 in
theorem ggL_law_L_isAsked_r10 : GoodIn wsL_law wsL_isAsked_r10 := goodIn_r _ [275, 276, 277, 278, 279, 280, 281, 48, 226, 222, 223, 224, 225, 59, 60, 62, 64, 65, 66, 67, 71, 72, 73, 74] (by decide +kernel) (by decide +kernel)
set_option maxRecDepth 20000 in
theorem ggL_law_L_isAsked_x4 : GoodIn wsL_law wsX40 := goodIn_r _ [461, 462, 463, 464, 465, 466, 467] (by decide +kernel) (by decide +kernel)
set_option maxRecDepth 20000 in
theorem ggL_law_L_isAsked_x1 : GoodIn wsL_law wsX10 := goodIn_r _ [468, 469, 470, 471, 472, 473, 474, 475, 476, 477, 478, 479, 480, 481, 482, 483, 484] (by decide +kernel) (by decide +kernel)
set_option maxRecDepth 20000 in
theorem ggL_law_L_isAsked_x0 : GoodIn wsL_law wsX00 := goodIn_r _ [485, 486, 487, 488] (by decide +kernel) (by decide +kernel)
set_option maxRecDepth 20000 in
theorem ggL_law_L_isAsked_x2 : GoodIn wsL_law wsX20 := goodIn_r _ [489, 490, 491] (by decide +kernel) (by decide +kernel)
set_option maxRecDepth 20000 in
theorem ggL_law_L_isAsked : GoodIn wsL_law wsL_isAsked := goodIn_ca (goodIn_ca (goodIn_ca (goodIn_cc ggL_law_L_isAsked_h (goodIn_app (goodIn_app (goodIn_app (goodIn_app (goodIn_app ggL_law_L_isAsked_r1 (goodIn_app ggL_law_L_isAsked_r2 (goodIn_app ggL_law_L_isAsked_r3 (goodIn_app ggL_law_L_isAsked_r4 (goodIn_app ggL_law_L_isAsked_r5 (goodIn_app ggL_law_L_isAsked_r6 (goodIn_app ggL_law_L_isAsked_r7 (goodIn_app ggL_law_L_isAsked_r8 (goodIn_app ggL_law_L_isAsked_r9 (ggL_law_L_isAsked_r10)))))))))) ggL_law_L_isAsked_x4) ggL_law_L_isAsked_x1) ggL_law_L_isAsked_x0) ggL_law_L_isAsked_x2)) (goodIn_sub (fun _ h => List.mem_append_right _ h) (by decide +kernel))) (goodIn_sub (fun _ h => List.mem_append_left _ (List.mem_append_right _ h)) (by decide +kernel))) (goodIn_sub (fun _ h => List.mem_append_left _ (List.mem_append_left _ (List.mem_append_right _ h))) (by decide +kernel))
set_option maxRecDepth 20000 in
theorem gL_law_L_isAsked : GoodIn wsL_law (va_wsS RL 166 yL_isAsked wsL_isAsked) := goodIn_app (goodIn_of _ (by decide +kernel)) ggL_law_L_isAsked
set_option maxRecDepth 20000 in
theorem ggL_law_L_isBest_h : GoodIn wsL_law [.code yL_isBest cL_isBest 8 (some .boolean)] := goodIn_r _ [447] (by decide +kernel) (by decide +kernel)
