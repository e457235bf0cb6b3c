set_option maxRecDepth 20000 in
theorem gL_acts_L_value : GoodIn wsL_acts (va_wsS RL 85 yL_value wsL_value) := goodIn_app (goodIn_of _ (by decide +kernel)) ggL_acts_L_value
set_option maxRecDepth 20000 in
theorem ggL_acts_L_low : GoodIn wsL_acts wsL_low := goodIn_r _ [39, 40] (by decide +kernel) (by decide +kernel)
set_option maxRecDepth 20000 in
theorem gL_acts_L_low : GoodIn wsL_acts (va_wsS RL 149 yL_low wsL_low) := goodIn_app (goodIn_of _ (by decide +kernel)) ggL_acts_L_low
set_option maxRecDepth 20000 in
theorem ggL_acts_L_begin_h : GoodIn wsL_acts [.codeWith yL_begin cL_begin 5 (some .int) [(0, 7, 10, 15), (0, 7, 15, 18)]] := goodIn_r _ [43] (by decide +kernel) (by decide +kernel)
set_option maxRecDepth 20000 in
theorem ggL_acts_L_begin_r1 : GoodIn wsL_acts wsL_begin_r1 := goodIn_r _ [5, 44, 6, 45, 46, 47, 48, 10, 49, 12, 13, 50, 51, 52, 14, 53, 54, 55, 56, 57, 58, 59, 60, 61] (by decide +kernel) (by decide +kernel)
set_option maxRecDepth 20000 in
theorem ggL_acts_L_begin_r2 : GoodIn wsL_acts wsL_begin_r2 := goodIn_r _ [62, 63, 64, 65, 66, 67, 18, 68, 27, 20, 21, 29, 24, 25, 26, 28, 69, 70, 23, 71, 22, 72, 73, 74] (by decide +kernel) (by decide +kernel)
set_option maxRecDepth 20000 in
theorem ggL_acts_L_begin_r3 : GoodIn wsL_acts wsL_begin_r3 := goodIn_r _ [75, 76, 77, 78, 79, 80, 81, 82, 83, 84, 85, 86, 87, 88, 89, 90, 91, 92, 93, 94, 95, 96, 97, 98] (by decide +kernel) (by decide +kernel)
set_option maxRecDepth 20000 in
theorem ggL_acts_L_begin_r4 : GoodIn wsL_acts wsL_begin_r4 := goodIn_r _ [99, 100, 101, 102, 103, 104, 105, 106, 107, 108, 109, 110, 111, 112, 113, 114, 115, 31, 32, 33, 34, 35, 36, 116] (by decide +kernel) (by decide +kernel)
set_option maxRecDepth 20000 in
theorem ggL_acts_L_begin_r5 : GoodIn wsL_acts wsL_begin_r5 := goodIn_r _ [117, 118, 119, 120, 121, 122, 123, 124, 125, 126, 127, 128, 129, 130, 131, 132, 133, 134, 135, 136, 137, 138, 139, 140] (by decide +kernel) (by decide +kernel)
set_option maxRecDepth 20000 in
theorem ggL_acts_L_begin_r6 : GoodIn wsL_acts wsL_begin_r6 := goodIn_r _ [141, 142, 30, 143] (by decide +kernel) (by decide +kernel)
set_option maxRecDepth 20000 in
theorem ggL_acts_L_begin_x4 : GoodIn wsL_acts wsX40 := goodIn_r _ [232, 233, 234, 235, 236, 237, 238] (by decide +kernel) (by decide +kernel)
set_option maxRecDepth 20000 in
theorem ggL_acts_L_begin_x1 : GoodIn wsL_acts wsX10 := goodIn_r _ [239, 240, 241, 242, 243, 244, 245, 246, 247, 248, 249, 250, 251, 252, 253, 254, 255] (by decide +kernel) (by decide +kernel)
set_option maxRecDepth 20000 in
theorem ggL_acts_L_begin_x0 : GoodIn wsL_acts wsX00 := goodIn_r _ [256, 257, 258, 259] (by decide +kernel) (by decide +kernel)
set_option maxRecDepth 20000 in
theorem ggL_acts_L_begin : GoodIn wsL_acts wsL_begin := goodIn_ca (goodIn_ca (goodIn_cc ggL_acts_L_begin_h (goodIn_app (goodIn_app (goodIn_app (goodIn_app ggL_acts_L_begin_r1 (goodIn_app ggL_acts_L_begin_r2 (goodIn_app ggL_acts_L_begin_r3 (goodIn_app ggL_acts_L_begin_r4 (goodIn_app ggL_acts_L_begin_r5 (ggL_acts_L_begin_r6)))))) ggL_acts_L_begin_x4) ggL_acts_L_begin_x1) ggL_acts_L_begin_x0)) (goodIn_sub (fun _ h => List.mem_cons_of_mem _ (List.mem_append_left _ (List.mem_append_left _ (List.mem_append_right _ h)))) (by decide +kernel))) (goodIn_sub (fun _ h => List.mem_cons_of_mem _ (List.mem_append_left _ (List.mem_append_right _ h))) (by decide +kernel))
set_option maxRecDepth 20000 in
theorem gL_acts_L_begin : GoodIn wsL_acts (va_wsS RL 99 yL_begin wsL_begin) := goodIn_app (goodIn_of _ (by decide +kernel)) ggL_acts_L_begin
set_option maxRecDepth 20000 in
theorem ggL_acts_L_accuse_h : GoodIn wsL_acts [.codeWith yL_accuse cL_accuse 4 (some .int) [(0, 6, 9, 25), (0, 6, 13, 18)]] := goodIn_r _ [146] (by decide +kernel) (by decide +kernel)
set_option maxRecDepth 20000 in
theorem ggL_acts_L_accuse_r1 : GoodIn wsL_acts wsL_accuse_r1 := goodIn_r _ [147, 44, 148, 45, 149, 150, 151, 10, 152, 153, 154, 50, 51, 14, 155, 156, 157, 55, 56, 57, 58, 59, 60, 61] (by decide +kernel) (by decide +kernel)
set_option maxRecDepth 20000 in
theorem ggL_acts_L_accuse_r2 : GoodIn wsL_acts wsL_accuse_r2 := goodIn_r _ [62, 63, 64, 65, 66, 67, 18, 68, 27, 20, 21, 29, 24, 25, 26, 28, 69, 70, 23, 71, 22, 72, 73, 74] (by decide +kernel) (by decide +kernel)
set_option maxRecDepth 20000 in
theorem ggL_acts_L_accuse_r3 : GoodIn wsL_acts wsL_accuse_r3 := goodIn_r _ [75, 76, 77, 78, 79, 80, 81, 82, 83, 84, 85, 86, 87, 88, 89, 90, 91, 92, 93, 94, 95, 96, 97, 98] (by decide +kernel) (by decide +kernel)
set_option maxRecDepth 20000 in
theorem ggL_acts_L_accuse_r4 : GoodIn wsL_acts wsL_accuse_r4 := goodIn_r _ [99, 100, 158, 159, 160, 161] (by decide +kernel) (by decide +kernel)
set_option maxRecDepth 20000 in
theorem ggL_acts_L_accuse_x4 : GoodIn wsL_acts wsX40 := goodIn_r _ [232, 233, 234, 235, 236, 237, 238] (by decide +kernel) (by decide +kernel)
set_option maxRecDepth 20000 in
theorem ggL_acts_L_accuse_x1 : GoodIn wsL_acts wsX10 := goodIn_r _ [239, 240, 241, 242, 243, 244, 245, 246, 247, 248, 249, 250, 251, 252, 253, 254, 255] (by decide +kernel) (by decide +kernel)
set_option maxRecDepth 20000 in
theorem ggL_acts_L_accuse_x0 : GoodIn wsL_acts wsX00 := goodIn_r _ [256, 257, 258, 259] (by decide +kernel) (by decide +kernel)
set_option maxRecDepth 20000 in
theorem ggL_acts_L_accuse : GoodIn wsL_acts wsL_accuse := goodIn_ca (goodIn_ca (goodIn_cc ggL_acts_L_accuse_h (goodIn_app (goodIn_app (goodIn_app (goodIn_app ggL_acts_L_accuse_r1 (goodIn_app ggL_acts_L_accuse_r2 (goodIn_app ggL_acts_L_accuse_r3 (ggL_acts_L_accuse_r4)))) ggL_acts_L_accuse_x4) ggL_acts_L_accuse_x1) ggL_acts_L_accuse_x0)) (goodIn_sub (fun _ h => List.mem_cons_of_mem _ (List.mem_append_right _ h)) (by decide +kernel))) (goodIn_sub (fun _ h => List.mem_cons_of_mem _ (List.mem_append_left _ (List.mem_append_right _ h))) (by decide +kernel))
set_option maxRecDepth 20000 in
theorem gL_acts_L_accuse : GoodIn wsL_acts (va_wsS RL 109 yL_accuse wsL_accuse) := goodIn_app (goodIn_of _ (by decide +kernel)) ggL_acts_L_accuse
set_option maxRecDepth 20000 in
theorem ggL_acts_L_leave_h : GoodIn wsL_acts [.codeWith yL_leave cL_leave 4 (some .int) [(0, 6, 9, 25), (0, 6, 13, 18)]] := goodIn_r _ [164] (by decide +kernel) (by decide +kernel)
set_option maxRecDepth 20000 in
theorem ggL_acts_L_leave_r1 : GoodIn wsL_acts wsL_leave_r1 := goodIn_r _ [147, 44, 148, 45, 165, 166, 167, 10, 168, 153, 154, 50, 51, 14, 169, 170, 171, 18, 172, 20, 173, 174, 175, 176] (by decide +kernel) (by decide +kernel)
set_option maxRecDepth 20000 in
theorem ggL_acts_L_leave_r2 : GoodIn wsL_acts wsL_leave_r2 := goodIn_r _ [21, 28, 177, 55, 56, 57, 58, 59, 60, 61, 62, 63, 64, 65, 66, 67, 68, 27, 29, 24, 25, 26, 69, 70] (by decide +kernel) (by decide +kernel)
