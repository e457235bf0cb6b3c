set_option maxRecDepth 20000 in
theorem ggL_isAsked_L_dealsIf_x0 : GoodIn wsL_isAsked wsX00 := goodIn_r _ [265, 266, 267, 268] (by decide +kernel) (by decide +kernel)
set_option maxRecDepth 20000 in
theorem ggL_isAsked_L_dealsIf : GoodIn wsL_isAsked wsL_dealsIf := goodIn_ca (goodIn_ca (goodIn_cc ggL_isAsked_L_dealsIf_h (goodIn_app (goodIn_app (goodIn_app (goodIn_app (goodIn_app ggL_isAsked_L_dealsIf_r1 (goodIn_app ggL_isAsked_L_dealsIf_r2 (ggL_isAsked_L_dealsIf_r3))) ggL_isAsked_L_dealsIf_x4) ggL_isAsked_L_dealsIf_x1) ggL_isAsked_L_dealsIf_x2) ggL_isAsked_L_dealsIf_x0)) (goodIn_sub (fun _ h => List.mem_cons_of_mem _ (List.mem_append_left _ (List.mem_append_left _ (List.mem_append_right _ h)))) (by decide +kernel))) (goodIn_sub (fun _ h => List.mem_cons_of_mem _ (List.mem_append_left _ (List.mem_append_right _ h))) (by decide +kernel))
set_option maxRecDepth 20000 in
theorem gL_isAsked_L_dealsIf : GoodIn wsL_isAsked (va_wsS RL 115 yL_dealsIf wsL_dealsIf) := goodIn_app (goodIn_of _ (by decide +kernel)) ggL_isAsked_L_dealsIf
set_option maxRecDepth 20000 in
theorem ggL_isAsked_L_print_h : GoodIn wsL_isAsked [.code yL_print cL_print 4 (some .long)] := goodIn_r _ [85] (by decide +kernel) (by decide +kernel)
set_option maxRecDepth 20000 in
theorem ggL_isAsked_L_print_r1 : GoodIn wsL_isAsked wsL_print_r1 := goodIn_r _ [86, 87, 88, 89, 10, 90, 13, 15, 91, 92, 93, 5, 94, 22, 23, 7, 95, 96, 97, 28, 98, 30, 99, 100] (by decide +kernel) (by decide +kernel)
set_option maxRecDepth 20000 in
theorem ggL_isAsked_L_print_r2 : GoodIn wsL_isAsked wsL_print_r2 := goodIn_r _ [101, 102, 103, 104, 105, 106, 107, 108, 66, 67, 68, 69, 70, 71, 109, 110, 111, 12, 14, 112, 113, 114, 115, 20] (by decide +kernel) (by decide +kernel)
set_option maxRecDepth 20000 in
theorem ggL_isAsked_L_print_r3 : GoodIn wsL_isAsked wsL_print_r3 := goodIn_r _ [21, 25, 26, 27, 29, 116, 117, 118, 119, 120, 121, 122, 123, 124, 125, 126, 127, 128, 129, 130, 131, 132, 133, 43] (by decide +kernel) (by decide +kernel)
set_option maxRecDepth 20000 in
theorem ggL_isAsked_L_print_r4 : GoodIn wsL_isAsked wsL_print_r4 := goodIn_r _ [134, 48, 135, 136, 55, 56, 137, 138, 139, 140, 141, 142, 143, 144, 145, 146, 42, 44, 147, 148, 149, 150, 151, 152] (by decide +kernel) (by decide +kernel)
set_option maxRecDepth 20000 in
theorem ggL_isAsked_L_print_r5 : GoodIn wsL_isAsked wsL_print_r5 := goodIn_r _ [153, 154, 155, 156, 157, 158, 159, 160, 161, 162, 163, 164] (by decide +kernel) (by decide +kernel)
set_option maxRecDepth 20000 in
theorem ggL_isAsked_L_print_x4 : GoodIn wsL_isAsked wsX40 := goodIn_r _ [241, 242, 243, 244, 245, 246, 247] (by decide +kernel) (by decide +kernel)
set_option maxRecDepth 20000 in
theorem ggL_isAsked_L_print_x1 : GoodIn wsL_isAsked wsX10 := goodIn_r _ [248, 249, 250, 251, 252, 253, 254, 255, 256, 257, 258, 259, 260, 261, 262, 263, 264] (by decide +kernel) (by decide +kernel)
set_option maxRecDepth 20000 in
theorem ggL_isAsked_L_print_x0 : GoodIn wsL_isAsked wsX00 := goodIn_r _ [265, 266, 267, 268] (by decide +kernel) (by decide +kernel)
set_option maxRecDepth 20000 in
theorem ggL_isAsked_L_print : GoodIn wsL_isAsked wsL_print := goodIn_ca (goodIn_ca (goodIn_cc ggL_isAsked_L_print_h (goodIn_app (goodIn_app (goodIn_app (goodIn_app ggL_isAsked_L_print_r1 (goodIn_app ggL_isAsked_L_print_r2 (goodIn_app ggL_isAsked_L_print_r3 (goodIn_app ggL_isAsked_L_print_r4 (ggL_isAsked_L_print_r5))))) ggL_isAsked_L_print_x4) ggL_isAsked_L_print_x1) ggL_isAsked_L_print_x0)) (goodIn_sub (fun _ h => List.mem_cons_of_mem _ (List.mem_append_left _ (List.mem_append_right _ h))) (by decide +kernel))) (goodIn_sub (fun _ h => List.mem_cons_of_mem _ (List.mem_append_left _ (List.mem_append_left _ (List.mem_append_right _ h)))) (by decide +kernel))
set_option maxRecDepth 20000 in
theorem gL_isAsked_L_print : GoodIn wsL_isAsked (va_wsS RL 95 yL_print wsL_print) := goodIn_app (goodIn_of _ (by decide +kernel)) ggL_isAsked_L_print
set_option maxRecDepth 20000 in
theorem ggL_isAsked_L_value : GoodIn wsL_isAsked wsL_value := goodIn_ca (goodIn_r _ [90, 13, 15, 91, 92, 93, 5, 94, 22, 23, 7, 95, 96, 97, 28, 98, 30, 99, 100, 101, 102, 103, 104, 105, 106, 107, 108, 66, 67, 68, 69, 70, 71, 241, 242, 243, 244, 245, 246, 247, 248, 249, 250, 251, 252, 253, 254, 255, 256, 257, 258, 259, 260, 261, 262, 263, 264] (by decide +kernel) (by decide +kernel)) (goodIn_sub (fun _ h => List.mem_cons_of_mem _ (List.mem_append_left _ (List.mem_append_right _ h))) (by decide +kernel))
set_option maxRecDepth 20000 in
theorem gL_isAsked_L_value : GoodIn wsL_isAsked (va_wsS RL 85 yL_value wsL_value) := goodIn_app (goodIn_of _ (by decide +kernel)) ggL_isAsked_L_value
set_option maxRecDepth 20000 in
theorem ggL_isAsked_L_ask_h : GoodIn wsL_isAsked [.codeWith yL_ask cL_ask 6 (some .int) [(0, 9, 12, 25), (0, 9, 17, 15), (0, 9, 22, 18)]] := goodIn_r _ [167] (by decide +kernel) (by decide +kernel)
set_option maxRecDepth 20000 in
theorem ggL_isAsked_L_ask_r1 : GoodIn wsL_isAsked wsL_ask_r1 := goodIn_r _ [12, 13, 168, 14, 15, 1, 169, 170, 171, 5, 172, 20, 21, 22, 23, 173, 174, 7, 25, 26, 27, 28, 29, 30] (by decide +kernel) (by decide +kernel)
set_option maxRecDepth 20000 in
theorem ggL_isAsked_L_ask_r2 : GoodIn wsL_isAsked wsL_ask_r2 := goodIn_r _ [31, 32, 33, 175, 176, 177, 178, 100, 179, 180, 181, 182, 183, 99, 106, 184, 185, 186, 187, 188, 189, 190, 191, 192] (by decide +kernel) (by decide +kernel)
set_option maxRecDepth 20000 in
theorem ggL_isAsked_L_ask_r3 : GoodIn wsL_isAsked wsL_ask_r3 := goodIn_r _ [193, 194, 195, 196, 197, 198, 105, 107, 102, 103, 104, 151, 101, 120, 130, 163, 164, 121, 199, 200, 201, 51, 52, 53] (by decide +kernel) (by decide +kernel)
set_option maxRecDepth 20000 in
theorem ggL_isAsked_L_ask_r4 : GoodIn wsL_isAsked wsL_ask_r4 := goodIn_r _ [202, 203, 204, 205, 206, 207, 208, 43, 209, 49, 210, 48, 135, 141, 211, 45, 46, 47, 50, 212, 213, 214, 215, 147] (by decide +kernel) (by decide +kernel)
set_option maxRecDepth 20000 in
theorem ggL_isAsked_L_ask_r5 : GoodIn wsL_isAsked wsL_ask_r5 := goodIn_r _ [148, 149, 150, 108, 66, 67, 68, 69, 70, 71, 122, 123, 124, 125, 216, 217, 218, 219, 146, 42, 44, 220, 221, 222] (by decide +kernel) (by decide +kernel)
set_option maxRecDepth 20000 in
theorem ggL_isAsked_L_ask_r6 : GoodIn wsL_isAsked wsL_ask_r6 := goodIn_r _ [223, 224, 136, 55, 56, 225, 226, 227, 228, 229] (by decide +kernel) (by decide +kernel)
