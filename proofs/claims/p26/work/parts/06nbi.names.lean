set_option maxRecDepth 20000 in
theorem ggL_law_L_isProved_x1 : GoodIn wsL_law wsX10 := goodIn_r _ [468, 469, 470, 471, 472, 473, 474, 475, 476, 477, 478, 479, 480, 481, 482, 483, 484] (by decide +kernel) (by decide +kernel)
set_option maxRecDepth 20000 in
theorem ggL_law_L_isProved_x0 : GoodIn wsL_law wsX00 := goodIn_r _ [485, 486, 487, 488] (by decide +kernel) (by decide +kernel)
set_option maxRecDepth 20000 in
theorem ggL_law_L_isProved : GoodIn wsL_law wsL_isProved := goodIn_ca (goodIn_ca (goodIn_ca (goodIn_cc ggL_law_L_isProved_h (goodIn_app (goodIn_app (goodIn_app (goodIn_app ggL_law_L_isProved_r1 (goodIn_app ggL_law_L_isProved_r2 (goodIn_app ggL_law_L_isProved_r3 (goodIn_app ggL_law_L_isProved_r4 (goodIn_app ggL_law_L_isProved_r5 (goodIn_app ggL_law_L_isProved_r6 (goodIn_app ggL_law_L_isProved_r7 (goodIn_app ggL_law_L_isProved_r8 (goodIn_app ggL_law_L_isProved_r9 (ggL_law_L_isProved_r10)))))))))) ggL_law_L_isProved_x4) ggL_law_L_isProved_x1) ggL_law_L_isProved_x0)) (goodIn_sub (fun _ h => List.mem_append_left _ (List.mem_append_right _ h)) (by decide +kernel))) (goodIn_sub (fun _ h => List.mem_append_right _ h) (by decide +kernel))) (goodIn_sub (fun _ h => List.mem_append_left _ (List.mem_append_left _ (List.mem_append_right _ h))) (by decide +kernel))
set_option maxRecDepth 20000 in
theorem gL_law_L_isProved : GoodIn wsL_law (va_wsS RL 174 yL_isProved wsL_isProved) := goodIn_app (goodIn_of _ (by decide +kernel)) ggL_law_L_isProved
set_option maxRecDepth 20000 in
theorem ggL_law_L_isAccused_h : GoodIn wsL_law [.code yL_isAccused cL_isAccused 12 (some .boolean)] := goodIn_r _ [460] (by decide +kernel) (by decide +kernel)
set_option maxRecDepth 20000 in
theorem ggL_law_L_isAccused_r1 : GoodIn wsL_law wsL_isAccused_r1 := goodIn_r _ [123, 124, 61, 125, 126, 5, 127, 128, 129, 2, 130, 131, 132, 16, 133, 134, 135, 15, 136, 83, 84, 92, 91, 86] (by decide +kernel) (by decide +kernel)
set_option maxRecDepth 20000 in
theorem ggL_law_L_isAccused_r2 : GoodIn wsL_law wsL_isAccused_r2 := goodIn_r _ [87, 88, 34, 89, 85, 137, 138, 139, 140, 141, 142, 143, 118, 119, 120, 121, 122, 144, 145, 146, 147, 6, 148, 149] (by decide +kernel) (by decide +kernel)
set_option maxRecDepth 20000 in
theorem ggL_law_L_isAccused_r3 : GoodIn wsL_law wsL_isAccused_r3 := goodIn_r _ [150, 151, 152, 153, 154, 155, 156, 157, 158, 159, 160, 161, 37, 42, 162, 163, 164, 165, 166, 167, 168, 169, 38, 170] (by decide +kernel) (by decide +kernel)
set_option maxRecDepth 20000 in
theorem ggL_law_L_isAccused_r4 : GoodIn wsL_law wsL_isAccused_r4 := goodIn_r _ [171, 172, 20, 173, 108, 49, 174, 175, 176, 177, 178, 179, 180, 109, 181, 182, 183, 184, 185, 186, 187, 188, 189, 190] (by decide +kernel) (by decide +kernel)
set_option maxRecDepth 20000 in
theorem ggL_law_L_isAccused_r5 : GoodIn wsL_law wsL_isAccused_r5 := goodIn_r _ [191, 36, 192, 193, 194, 195, 196, 197, 198, 199, 200, 201, 202, 39, 40, 416, 417, 418, 419, 420, 312, 313, 314, 63] (by decide +kernel) (by decide +kernel)
set_option maxRecDepth 20000 in
theorem ggL_law_L_isAccused_r6 : GoodIn wsL_law wsL_isAccused_r6 := goodIn_r _ [3, 315, 316, 317, 318, 68, 69, 289, 290, 291, 211, 212, 213, 214, 70, 17, 75, 76, 77, 78, 79, 80, 81, 82] (by decide +kernel) (by decide +kernel)
set_option maxRecDepth 20000 in
theorem ggL_law_L_isAccused_r7 : GoodIn wsL_law wsL_isAccused_r7 := goodIn_r _ [90, 93, 94, 95, 96, 97, 98, 99, 100, 101, 102, 103, 104, 105, 106, 47, 107, 110, 111, 112, 113, 114, 319, 320] (by decide +kernel) (by decide +kernel)
set_option maxRecDepth 20000 in
theorem ggL_law_L_isAccused_r8 : GoodIn wsL_law wsL_isAccused_r8 := goodIn_r _ [321, 322, 425, 426, 427, 428, 429, 430, 59, 60, 62, 64, 65, 66, 67, 71, 72, 73, 74] (by decide +kernel) (by decide +kernel)
set_option maxRecDepth 20000 in
theorem ggL_law_L_isAccused_x4 : GoodIn wsL_law wsX40 := goodIn_r _ [461, 462, 463, 464, 465, 466, 467] (by decide +kernel) (by decide +kernel)
set_option maxRecDepth 20000 in
theorem ggL_law_L_isAccused_x1 : GoodIn wsL_law wsX10 := goodIn_r _ [468, 469, 470, 471, 472, 473, 474, 475, 476, 477, 478, 479, 480, 481, 482, 483, 484] (by decide +kernel) (by decide +kernel)
set_option maxRecDepth 20000 in
theorem ggL_law_L_isAccused_x0 : GoodIn wsL_law wsX00 := goodIn_r _ [485, 486, 487, 488] (by decide +kernel) (by decide +kernel)
set_option maxRecDepth 20000 in
theorem ggL_law_L_isAccused : GoodIn wsL_law wsL_isAccused := goodIn_ca (goodIn_ca (goodIn_ca (goodIn_cc ggL_law_L_isAccused_h (goodIn_app (goodIn_app (goodIn_app (goodIn_app ggL_law_L_isAccused_r1 (goodIn_app ggL_law_L_isAccused_r2 (goodIn_app ggL_law_L_isAccused_r3 (goodIn_app ggL_law_L_isAccused_r4 (goodIn_app ggL_law_L_isAccused_r5 (goodIn_app ggL_law_L_isAccused_r6 (goodIn_app ggL_law_L_isAccused_r7 (ggL_law_L_isAccused_r8)))))))) ggL_law_L_isAccused_x4) ggL_law_L_isAccused_x1) ggL_law_L_isAccused_x0)) (goodIn_sub (fun _ h => List.mem_append_left _ (List.mem_append_right _ h)) (by decide +kernel))) (goodIn_sub (fun _ h => List.mem_append_right _ h) (by decide +kernel))) (goodIn_sub (fun _ h => List.mem_append_left _ (List.mem_append_left _ (List.mem_append_right _ h))) (by decide +kernel))
set_option maxRecDepth 20000 in
theorem gL_law_L_isAccused : GoodIn wsL_law (va_wsS RL 178 yL_isAccused wsL_isAccused) := goodIn_app (goodIn_of _ (by decide +kernel)) ggL_law_L_isAccused
