set_option maxRecDepth 20000 in
theorem ggL_law_L_areDeals_r2 : GoodIn wsL_law wsL_areDeals_r2 := goodIn_r _ [87, 88, 34, 89, 85, 137, 138, 139, 140, 141, 142, 143, 401, 402, 403, 404, 323, 324, 325, 147, 6, 326, 327, 328] (by decide +kernel) (by decide +kernel)
set_option maxRecDepth 20000 in
theorem ggL_law_L_areDeals_r3 : GoodIn wsL_law wsL_areDeals_r3 := goodIn_r _ [329, 152, 153, 289, 290, 291, 330, 331, 332, 20, 333, 47, 227, 228, 229, 110, 111, 112, 113, 108, 114, 96, 97, 98] (by decide +kernel) (by decide +kernel)
set_option maxRecDepth 20000 in
theorem ggL_law_L_areDeals_r4 : GoodIn wsL_law wsL_areDeals_r4 := goodIn_r _ [334, 335, 336, 337, 338, 339, 340, 154, 155, 156, 157, 405, 406, 407, 408, 409, 410, 411, 412, 413, 414, 415, 416, 417] (by decide +kernel) (by decide +kernel)
set_option maxRecDepth 20000 in
theorem ggL_law_L_areDeals_r5 : GoodIn wsL_law wsL_areDeals_r5 := goodIn_r _ [418, 419, 420, 178, 179, 180, 109, 174, 175, 176, 421, 422, 423, 424, 144, 145, 146, 148, 149, 150, 151, 158, 159, 160] (by decide +kernel) (by decide +kernel)
set_option maxRecDepth 20000 in
theorem ggL_law_L_areDeals_r6 : GoodIn wsL_law wsL_areDeals_r6 := goodIn_r _ [161, 37, 42, 162, 163, 164, 165, 166, 167, 168, 169, 38, 170, 171, 172, 173, 49, 177, 181, 182, 183, 184, 185, 186] (by decide +kernel) (by decide +kernel)
set_option maxRecDepth 20000 in
theorem ggL_law_L_areDeals_r7 : GoodIn wsL_law wsL_areDeals_r7 := goodIn_r _ [187, 188, 189, 190, 191, 36] (by decide +kernel) (by decide +kernel)
set_option maxRecDepth 20000 in
theorem ggL_law_L_areDeals_x4 : GoodIn wsL_law wsX40 := goodIn_r _ [461, 462, 463, 464, 465, 466, 467] (by decide +kernel) (by decide +kernel)
set_option maxRecDepth 20000 in
theorem ggL_law_L_areDeals_x1 : GoodIn wsL_law wsX10 := goodIn_r _ [468, 469, 470, 471, 472, 473, 474, 475, 476, 477, 478, 479, 480, 481, 482, 483, 484] (by decide +kernel) (by decide +kernel)
set_option maxRecDepth 20000 in
theorem ggL_law_L_areDeals_x0 : GoodIn wsL_law wsX00 := goodIn_r _ [485, 486, 487, 488] (by decide +kernel) (by decide +kernel)
set_option maxRecDepth 20000 in
theorem ggL_law_L_areDeals : GoodIn wsL_law wsL_areDeals := goodIn_ca (goodIn_ca (goodIn_cc ggL_law_L_areDeals_h (goodIn_app (goodIn_app (goodIn_app (goodIn_app ggL_law_L_areDeals_r1 (goodIn_app ggL_law_L_areDeals_r2 (goodIn_app ggL_law_L_areDeals_r3 (goodIn_app ggL_law_L_areDeals_r4 (goodIn_app ggL_law_L_areDeals_r5 (goodIn_app ggL_law_L_areDeals_r6 (ggL_law_L_areDeals_r7))))))) ggL_law_L_areDeals_x4) ggL_law_L_areDeals_x1) ggL_law_L_areDeals_x0)) (goodIn_sub (fun _ h => List.mem_append_left _ (List.mem_append_right _ h)) (by decide +kernel))) (goodIn_sub (fun _ h => List.mem_append_right _ h) (by decide +kernel))
set_option maxRecDepth 20000 in
theorem gL_law_L_areDeals : GoodIn wsL_law (va_wsS RL 156 yL_areDeals wsL_areDeals) := goodIn_app (goodIn_of _ (by decide +kernel)) ggL_law_L_areDeals
set_option maxRecDepth 20000 in
theorem ggL_law_L_areGuests_h : GoodIn wsL_law [.code yL_areGuests cL_areGuests 11 (some .boolean)] := goodIn_r _ [427] (by decide +kernel) (by decide +kernel)
set_option maxRecDepth 20000 in
theorem ggL_law_L_areGuests_r1 : GoodIn wsL_law wsL_areGuests_r1 := goodIn_r _ [123, 124, 61, 125, 126, 5, 127, 128, 129, 2, 130, 131, 132, 16, 133, 134, 135, 15, 136, 83, 84, 92, 91, 86] (by decide +kernel) (by decide +kernel)
set_option maxRecDepth 20000 in
theorem ggL_law_L_areGuests_r2 : GoodIn wsL_law wsL_areGuests_r2 := goodIn_r _ [87, 88, 34, 89, 85, 137, 138, 139, 140, 141, 142, 143, 144, 145, 146, 147, 6, 148, 149, 150, 151, 152, 153, 154] (by decide +kernel) (by decide +kernel)
set_option maxRecDepth 20000 in
theorem ggL_law_L_areGuests_r3 : GoodIn wsL_law wsL_areGuests_r3 := goodIn_r _ [155, 156, 157, 158, 159, 160, 161, 37, 42, 162, 163, 164, 165, 166, 167, 168, 169, 38, 170, 171, 172, 20, 173, 108] (by decide +kernel) (by decide +kernel)
set_option maxRecDepth 20000 in
theorem ggL_law_L_areGuests_r4 : GoodIn wsL_law wsL_areGuests_r4 := goodIn_r _ [49, 174, 175, 176, 177, 178, 179, 180, 109, 181, 182, 183, 184, 185, 186, 187, 188, 189, 190, 191, 36, 428, 429, 430] (by decide +kernel) (by decide +kernel)
set_option maxRecDepth 20000 in
theorem ggL_law_L_areGuests_r5 : GoodIn wsL_law wsL_areGuests_r5 := goodIn_r _ [192, 193, 194, 195, 196, 197, 198, 199, 200, 201, 202, 39, 40] (by decide +kernel) (by decide +kernel)
set_option maxRecDepth 20000 in
theorem ggL_law_L_areGuests_x4 : GoodIn wsL_law wsX40 := goodIn_r _ [461, 462, 463, 464, 465, 466, 467] (by decide +kernel) (by decide +kernel)
set_option maxRecDepth 20000 in
theorem ggL_law_L_areGuests_x1 : GoodIn wsL_law wsX10 := goodIn_r _ [468, 469, 470, 471, 472, 473, 474, 475, 476, 477, 478, 479, 480, 481, 482, 483, 484] (by decide +kernel) (by decide +kernel)
set_option maxRecDepth 20000 in
theorem ggL_law_L_areGuests_x0 : GoodIn wsL_law wsX00 := goodIn_r _ [485, 486, 487, 488] (by decide +kernel) (by decide +kernel)
set_option maxRecDepth 20000 in
theorem ggL_law_L_areGuests : GoodIn wsL_law wsL_areGuests := goodIn_ca (goodIn_ca (goodIn_cc ggL_law_L_areGuests_h (goodIn_app (goodIn_app (goodIn_app (goodIn_app ggL_law_L_areGuests_r1 (goodIn_app ggL_law_L_areGuests_r2 (goodIn_app ggL_law_L_areGuests_r3 (goodIn_app ggL_law_L_areGuests_r4 (ggL_law_L_areGuests_r5))))) ggL_law_L_areGuests_x4) ggL_law_L_areGuests_x1) ggL_law_L_areGuests_x0)) (goodIn_sub (fun _ h => List.mem_append_left _ (List.mem_append_right _ h)) (by decide +kernel))) (goodIn_sub (fun _ h => List.mem_append_right _ h) (by decide +kernel))
set_option maxRecDepth 20000 in
theorem gL_law_L_areGuests : GoodIn wsL_law (va_wsS RL 145 yL_areGuests wsL_areGuests) := goodIn_app (goodIn_of _ (by decide +kernel)) ggL_law_L_areGuests
set_option maxRecDepth 20000 in
theorem ggL_law_L_cell : GoodIn wsL_law wsL_cell := goodIn_r _ [433, 434] (by decide +kernel) (by decide +kernel)
set_option maxRecDepth 20000 in
theorem gL_law_L_cell : GoodIn wsL_law (va_wsS RL 159 yL_cell wsL_cell) := goodIn_app (goodIn_of _ (by decide +kernel)) ggL_law_L_cell
set_option maxRecDepth 20000 in
theorem ggL_law_L_low : GoodIn wsL_law wsL_low := goodIn_r _ [437, 438] (by decide +kernel) (by decide +kernel)
set_option maxRecDepth 20000 in
theorem gL_law_L_low : GoodIn wsL_law (va_wsS RL 149 yL_low wsL_low) := goodIn_app (goodIn_of _ (by decide +kernel)) ggL_law_L_low
set_option maxRecDepth 20000 in
theorem ggL_law_L_print_h : GoodIn wsL_law [.code yL_print cL_print 4 (some .long)] := goodIn_r _ [120] (by decide +kernel) (by decide +kernel)
set_option maxRecDepth 20000 in
theorem ggL_law_L_print_r1 : GoodIn wsL_law wsL_print_r1 := goodIn_r _ [121, 122, 123, 124, 61, 125, 126, 5, 127, 128, 129, 2, 130, 131, 132, 16, 133, 134, 135, 15, 136, 83, 84, 92] (by decide +kernel) (by decide +kernel)
set_option maxRecDepth 20000 in
theorem ggL_law_L_print_r2 : GoodIn wsL_law wsL_print_r2 := goodIn_r _ [91, 86, 87, 88, 34, 89, 85, 137, 138, 139, 140, 141, 142, 143, 144, 145, 146, 147, 6, 148, 149, 150, 151, 152] (by decide +kernel) (by decide +kernel)
