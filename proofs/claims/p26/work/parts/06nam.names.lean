set_option maxRecDepth 20000 in
theorem ggL_refused_L_begin_r6 : GoodIn wsL_refused wsL_begin_r6 := goodIn_r _ [196, 197, 38, 198] (by decide +kernel) (by decide +kernel)
set_option maxRecDepth 20000 in
theorem ggL_refused_L_begin_x4 : GoodIn wsL_refused wsX40 := goodIn_r _ [354, 355, 356, 357, 358, 359, 360] (by decide +kernel) (by decide +kernel)
set_option maxRecDepth 20000 in
theorem ggL_refused_L_begin_x1 : GoodIn wsL_refused wsX10 := goodIn_r _ [361, 362, 363, 364, 365, 366, 367, 368, 369, 370, 371, 372, 373, 374, 375, 376, 377] (by decide +kernel) (by decide +kernel)
set_option maxRecDepth 20000 in
theorem ggL_refused_L_begin_x0 : GoodIn wsL_refused wsX00 := goodIn_r _ [378, 379, 380, 381] (by decide +kernel) (by decide +kernel)
set_option maxRecDepth 20000 in
theorem ggL_refused_L_begin : GoodIn wsL_refused wsL_begin := goodIn_ca (goodIn_ca (goodIn_cc ggL_refused_L_begin_h (goodIn_app (goodIn_app (goodIn_app (goodIn_app ggL_refused_L_begin_r1 (goodIn_app ggL_refused_L_begin_r2 (goodIn_app ggL_refused_L_begin_r3 (goodIn_app ggL_refused_L_begin_r4 (goodIn_app ggL_refused_L_begin_r5 (ggL_refused_L_begin_r6)))))) ggL_refused_L_begin_x4) ggL_refused_L_begin_x1) ggL_refused_L_begin_x0)) (goodIn_sub (fun _ h => List.mem_cons_of_mem _ (List.mem_append_left _ (List.mem_append_left _ (List.mem_append_right _ h)))) (by decide +kernel))) (goodIn_sub (fun _ h => List.mem_cons_of_mem _ (List.mem_append_right _ h)) (by decide +kernel))
set_option maxRecDepth 20000 in
theorem gL_refused_L_begin : GoodIn wsL_refused (va_wsS RL 99 yL_begin wsL_begin) := goodIn_app (goodIn_of _ (by decide +kernel)) ggL_refused_L_begin
set_option maxRecDepth 20000 in
theorem ggL_refused_L_ask_h : GoodIn wsL_refused [.codeWith yL_ask cL_ask 6 (some .int) [(0, 9, 12, 25), (0, 9, 17, 15), (0, 9, 22, 18)]] := goodIn_r _ [201] (by decide +kernel) (by decide +kernel)
set_option maxRecDepth 20000 in
theorem ggL_refused_L_ask_r1 : GoodIn wsL_refused wsL_ask_r1 := goodIn_r _ [48, 14, 117, 3, 1, 4, 202, 203, 204, 18, 205, 53, 54, 20, 21, 122, 123, 22, 55, 56, 57, 26, 58, 28] (by decide +kernel) (by decide +kernel)
set_option maxRecDepth 20000 in
theorem ggL_refused_L_ask_r2 : GoodIn wsL_refused wsL_ask_r2 := goodIn_r _ [206, 207, 208, 209, 210, 211, 212, 30, 141, 213, 214, 215, 216, 29, 36, 217, 127, 128, 129, 130, 131, 132, 133, 134] (by decide +kernel) (by decide +kernel)
set_option maxRecDepth 20000 in
theorem ggL_refused_L_ask_r3 : GoodIn wsL_refused wsL_ask_r3 := goodIn_r _ [135, 136, 137, 138, 139, 140, 35, 37, 32, 33, 34, 100, 31, 63, 73, 112, 113, 64, 142, 143, 144, 145, 146, 147] (by decide +kernel) (by decide +kernel)
set_option maxRecDepth 20000 in
theorem ggL_refused_L_ask_r4 : GoodIn wsL_refused wsL_ask_r4 := goodIn_r _ [148, 149, 150, 151, 152, 153, 154, 77, 155, 156, 157, 79, 80, 88, 158, 159, 160, 161, 162, 218, 219, 220, 221, 96] (by decide +kernel) (by decide +kernel)
set_option maxRecDepth 20000 in
theorem ggL_refused_L_ask_r5 : GoodIn wsL_refused wsL_ask_r5 := goodIn_r _ [97, 98, 99, 38, 39, 40, 41, 42, 43, 44, 65, 66, 67, 68, 222, 223, 224, 225, 93, 94, 95, 226, 227, 228] (by decide +kernel) (by decide +kernel)
set_option maxRecDepth 20000 in
theorem ggL_refused_L_ask_r6 : GoodIn wsL_refused wsL_ask_r6 := goodIn_r _ [229, 230, 81, 82, 83, 174, 170, 171, 172, 173] (by decide +kernel) (by decide +kernel)
set_option maxRecDepth 20000 in
theorem ggL_refused_L_ask_x4 : GoodIn wsL_refused wsX40 := goodIn_r _ [354, 355, 356, 357, 358, 359, 360] (by decide +kernel) (by decide +kernel)
set_option maxRecDepth 20000 in
theorem ggL_refused_L_ask_x1 : GoodIn wsL_refused wsX10 := goodIn_r _ [361, 362, 363, 364, 365, 366, 367, 368, 369, 370, 371, 372, 373, 374, 375, 376, 377] (by decide +kernel) (by decide +kernel)
set_option maxRecDepth 20000 in
theorem ggL_refused_L_ask_x0 : GoodIn wsL_refused wsX00 := goodIn_r _ [378, 379, 380, 381] (by decide +kernel) (by decide +kernel)
set_option maxRecDepth 20000 in
theorem ggL_refused_L_ask : GoodIn wsL_refused wsL_ask := goodIn_ca (goodIn_ca (goodIn_ca (goodIn_cc ggL_refused_L_ask_h (goodIn_app (goodIn_app (goodIn_app (goodIn_app ggL_refused_L_ask_r1 (goodIn_app ggL_refused_L_ask_r2 (goodIn_app ggL_refused_L_ask_r3 (goodIn_app ggL_refused_L_ask_r4 (goodIn_app ggL_refused_L_ask_r5 (ggL_refused_L_ask_r6)))))) ggL_refused_L_ask_x4) ggL_refused_L_ask_x1) ggL_refused_L_ask_x0)) (goodIn_sub (fun _ h => List.mem_cons_of_mem _ (List.mem_append_left _ (List.mem_append_right _ h))) (by decide +kernel))) (goodIn_sub (fun _ h => List.mem_cons_of_mem _ (List.mem_append_left _ (List.mem_append_left _ (List.mem_append_right _ h)))) (by decide +kernel))) (goodIn_sub (fun _ h => List.mem_cons_of_mem _ (List.mem_append_right _ h)) (by decide +kernel))
set_option maxRecDepth 20000 in
theorem gL_refused_L_ask : GoodIn wsL_refused (va_wsS RL 102 yL_ask wsL_ask) := goodIn_app (goodIn_of _ (by decide +kernel)) ggL_refused_L_ask
set_option maxRecDepth 20000 in
theorem ggL_refused_L_prove_h : GoodIn wsL_refused [.codeWith yL_prove cL_prove 5 (some .int) [(0, 7, 10, 25), (0, 7, 15, 18)]] := goodIn_r _ [233] (by decide +kernel) (by decide +kernel)
set_option maxRecDepth 20000 in
theorem ggL_refused_L_prove_r1 : GoodIn wsL_refused wsL_prove_r1 := goodIn_r _ [48, 117, 3, 4, 234, 235, 236, 18, 237, 53, 54, 122, 123, 22, 55, 56, 57, 26, 58, 28, 238, 239, 240, 241] (by decide +kernel) (by decide +kernel)
set_option maxRecDepth 20000 in
theorem ggL_refused_L_prove_r2 : GoodIn wsL_refused wsL_prove_r2 := goodIn_r _ [214, 215, 216, 29, 36, 217, 127, 128, 129, 130, 131, 132, 133, 134, 135, 136, 137, 138, 139, 140, 35, 37, 32, 33] (by decide +kernel) (by decide +kernel)
set_option maxRecDepth 20000 in
theorem ggL_refused_L_prove_r3 : GoodIn wsL_refused wsL_prove_r3 := goodIn_r _ [34, 141, 100, 31, 63, 30, 73, 112, 113, 64, 142, 143, 144, 145, 146, 147, 148, 149, 150, 151, 152, 153, 154, 77] (by decide +kernel) (by decide +kernel)
set_option maxRecDepth 20000 in
theorem ggL_refused_L_prove_r4 : GoodIn wsL_refused wsL_prove_r4 := goodIn_r _ [155, 156, 157, 79, 80, 88, 158, 159, 160, 161, 162, 242, 243, 244, 245, 96, 97, 98, 99, 246, 247, 248, 249, 175] (by decide +kernel) (by decide +kernel)
set_option maxRecDepth 20000 in
theorem ggL_refused_L_prove_r5 : GoodIn wsL_refused wsL_prove_r5 := goodIn_r _ [176, 177, 226, 227, 228, 229, 230, 170, 171, 172, 173] (by decide +kernel) (by decide +kernel)
set_option maxRecDepth 20000 in
theorem ggL_refused_L_prove_x4 : GoodIn wsL_refused wsX40 := goodIn_r _ [354, 355, 356, 357, 358, 359, 360] (by decide +kernel) (by decide +kernel)
set_option maxRecDepth 20000 in
theorem ggL_refused_L_prove_x1 : GoodIn wsL_refused wsX10 := goodIn_r _ [361, 362, 363, 364, 365, 366, 367, 368, 369, 370, 371, 372, 373, 374, 375, 376, 377] (by decide +kernel) (by decide +kernel)
