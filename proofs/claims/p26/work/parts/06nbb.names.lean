set_option maxRecDepth 20000 in
theorem ggL_acts_L_leave_r3 : GoodIn wsL_acts wsL_leave_r3 := goodIn_r _ [23, 71, 22, 72, 73, 74, 75, 76, 77, 78, 79, 80, 81, 82, 83, 84, 85, 86, 87, 88, 89, 90, 91, 92] (by decide +kernel) (by decide +kernel)
set_option maxRecDepth 20000 in
theorem ggL_acts_L_leave_r4 : GoodIn wsL_acts wsL_leave_r4 := goodIn_r _ [93, 94, 95, 96, 97, 98, 99, 100, 178, 179, 180, 181, 30, 31, 32, 33, 34, 35, 36] (by decide +kernel) (by decide +kernel)
set_option maxRecDepth 20000 in
theorem ggL_acts_L_leave_x4 : GoodIn wsL_acts wsX40 := goodIn_r _ [232, 233, 234, 235, 236, 237, 238] (by decide +kernel) (by decide +kernel)
set_option maxRecDepth 20000 in
theorem ggL_acts_L_leave_x1 : GoodIn wsL_acts wsX10 := goodIn_r _ [239, 240, 241, 242, 243, 244, 245, 246, 247, 248, 249, 250, 251, 252, 253, 254, 255] (by decide +kernel) (by decide +kernel)
set_option maxRecDepth 20000 in
theorem ggL_acts_L_leave_x0 : GoodIn wsL_acts wsX00 := goodIn_r _ [256, 257, 258, 259] (by decide +kernel) (by decide +kernel)
set_option maxRecDepth 20000 in
theorem ggL_acts_L_leave : GoodIn wsL_acts wsL_leave := goodIn_ca (goodIn_ca (goodIn_cc ggL_acts_L_leave_h (goodIn_app (goodIn_app (goodIn_app (goodIn_app ggL_acts_L_leave_r1 (goodIn_app ggL_acts_L_leave_r2 (goodIn_app ggL_acts_L_leave_r3 (ggL_acts_L_leave_r4)))) ggL_acts_L_leave_x4) ggL_acts_L_leave_x1) ggL_acts_L_leave_x0)) (goodIn_sub (fun _ h => List.mem_cons_of_mem _ (List.mem_append_right _ h)) (by decide +kernel))) (goodIn_sub (fun _ h => List.mem_cons_of_mem _ (List.mem_append_left _ (List.mem_append_right _ h))) (by decide +kernel))
set_option maxRecDepth 20000 in
theorem gL_acts_L_leave : GoodIn wsL_acts (va_wsS RL 107 yL_leave wsL_leave) := goodIn_app (goodIn_of _ (by decide +kernel)) ggL_acts_L_leave
set_option maxRecDepth 20000 in
theorem ggL_acts_L_prove_h : GoodIn wsL_acts [.codeWith yL_prove cL_prove 5 (some .int) [(0, 7, 10, 25), (0, 7, 15, 18)]] := goodIn_r _ [184] (by decide +kernel) (by decide +kernel)
set_option maxRecDepth 20000 in
theorem ggL_acts_L_prove_r1 : GoodIn wsL_acts wsL_prove_r1 := goodIn_r _ [147, 44, 148, 45, 185, 186, 187, 10, 188, 153, 154, 50, 51, 14, 169, 170, 171, 18, 172, 20, 155, 156, 157, 173] (by decide +kernel) (by decide +kernel)
set_option maxRecDepth 20000 in
theorem ggL_acts_L_prove_r2 : GoodIn wsL_acts wsL_prove_r2 := goodIn_r _ [174, 175, 176, 21, 28, 177, 55, 56, 57, 58, 59, 60, 61, 62, 63, 64, 65, 66, 67, 68, 27, 29, 24, 25] (by decide +kernel) (by decide +kernel)
set_option maxRecDepth 20000 in
theorem ggL_acts_L_prove_r3 : GoodIn wsL_acts wsL_prove_r3 := goodIn_r _ [26, 69, 70, 23, 71, 22, 72, 73, 74, 75, 76, 77, 78, 79, 80, 81, 82, 83, 84, 85, 86, 87, 88, 89] (by decide +kernel) (by decide +kernel)
set_option maxRecDepth 20000 in
theorem ggL_acts_L_prove_r4 : GoodIn wsL_acts wsL_prove_r4 := goodIn_r _ [90, 91, 92, 93, 94, 95, 96, 97, 98, 99, 100, 189, 190, 191, 192, 193, 194, 195, 196, 197, 198, 199, 200, 120] (by decide +kernel) (by decide +kernel)
set_option maxRecDepth 20000 in
theorem ggL_acts_L_prove_r5 : GoodIn wsL_acts wsL_prove_r5 := goodIn_r _ [121, 122, 201, 202, 203, 204, 205, 108, 109, 110, 111] (by decide +kernel) (by decide +kernel)
set_option maxRecDepth 20000 in
theorem ggL_acts_L_prove_x4 : GoodIn wsL_acts wsX40 := goodIn_r _ [232, 233, 234, 235, 236, 237, 238] (by decide +kernel) (by decide +kernel)
set_option maxRecDepth 20000 in
theorem ggL_acts_L_prove_x1 : GoodIn wsL_acts wsX10 := goodIn_r _ [239, 240, 241, 242, 243, 244, 245, 246, 247, 248, 249, 250, 251, 252, 253, 254, 255] (by decide +kernel) (by decide +kernel)
set_option maxRecDepth 20000 in
theorem ggL_acts_L_prove_x0 : GoodIn wsL_acts wsX00 := goodIn_r _ [256, 257, 258, 259] (by decide +kernel) (by decide +kernel)
set_option maxRecDepth 20000 in
theorem ggL_acts_L_prove : GoodIn wsL_acts wsL_prove := goodIn_ca (goodIn_ca (goodIn_cc ggL_acts_L_prove_h (goodIn_app (goodIn_app (goodIn_app (goodIn_app ggL_acts_L_prove_r1 (goodIn_app ggL_acts_L_prove_r2 (goodIn_app ggL_acts_L_prove_r3 (goodIn_app ggL_acts_L_prove_r4 (ggL_acts_L_prove_r5))))) ggL_acts_L_prove_x4) ggL_acts_L_prove_x1) ggL_acts_L_prove_x0)) (goodIn_sub (fun _ h => List.mem_cons_of_mem _ (List.mem_append_right _ h)) (by decide +kernel))) (goodIn_sub (fun _ h => List.mem_cons_of_mem _ (List.mem_append_left _ (List.mem_append_right _ h))) (by decide +kernel))
set_option maxRecDepth 20000 in
theorem gL_acts_L_prove : GoodIn wsL_acts (va_wsS RL 105 yL_prove wsL_prove) := goodIn_app (goodIn_of _ (by decide +kernel)) ggL_acts_L_prove
set_option maxRecDepth 20000 in
theorem ggL_acts_L_ask_h : GoodIn wsL_acts [.codeWith yL_ask cL_ask 6 (some .int) [(0, 9, 12, 25), (0, 9, 17, 15), (0, 9, 22, 18)]] := goodIn_r _ [208] (by decide +kernel) (by decide +kernel)
set_option maxRecDepth 20000 in
theorem ggL_acts_L_ask_r1 : GoodIn wsL_acts wsL_ask_r1 := goodIn_r _ [147, 5, 44, 148, 6, 45, 209, 210, 211, 10, 212, 153, 154, 12, 13, 50, 51, 14, 169, 170, 171, 18, 172, 20] (by decide +kernel) (by decide +kernel)
set_option maxRecDepth 20000 in
theorem ggL_acts_L_ask_r2 : GoodIn wsL_acts wsL_ask_r2 := goodIn_r _ [213, 214, 215, 216, 217, 218, 219, 22, 69, 220, 174, 175, 176, 21, 28, 177, 55, 56, 57, 58, 59, 60, 61, 62] (by decide +kernel) (by decide +kernel)
set_option maxRecDepth 20000 in
theorem ggL_acts_L_ask_r3 : GoodIn wsL_acts wsL_ask_r3 := goodIn_r _ [63, 64, 65, 66, 67, 68, 27, 29, 24, 25, 26, 70, 23, 71, 72, 73, 74, 75, 76, 77, 78, 79, 80, 81] (by decide +kernel) (by decide +kernel)
set_option maxRecDepth 20000 in
theorem ggL_acts_L_ask_r4 : GoodIn wsL_acts wsL_ask_r4 := goodIn_r _ [82, 83, 84, 85, 86, 87, 88, 89, 90, 91, 92, 93, 94, 95, 96, 97, 98, 99, 100, 221, 222, 223, 224, 193] (by decide +kernel) (by decide +kernel)
set_option maxRecDepth 20000 in
theorem ggL_acts_L_ask_r5 : GoodIn wsL_acts wsL_ask_r5 := goodIn_r _ [194, 195, 196, 30, 31, 32, 33, 34, 35, 36, 116, 117, 118, 119, 225, 226, 227, 228, 229, 230, 231, 201, 202, 203] (by decide +kernel) (by decide +kernel)
