set_option maxRecDepth 20000 in
theorem ggL_refused_L_prove_x0 : GoodIn wsL_refused wsX00 := goodIn_r _ [378, 379, 380, 381] (by decide +kernel) (by decide +kernel)
set_option maxRecDepth 20000 in
theorem ggL_refused_L_prove : GoodIn wsL_refused wsL_prove := goodIn_ca (goodIn_ca (goodIn_cc ggL_refused_L_prove_h (goodIn_app (goodIn_app (goodIn_app (goodIn_app ggL_refused_L_prove_r1 (goodIn_app ggL_refused_L_prove_r2 (goodIn_app ggL_refused_L_prove_r3 (goodIn_app ggL_refused_L_prove_r4 (ggL_refused_L_prove_r5))))) ggL_refused_L_prove_x4) ggL_refused_L_prove_x1) ggL_refused_L_prove_x0)) (goodIn_sub (fun _ h => List.mem_cons_of_mem _ (List.mem_append_left _ (List.mem_append_right _ h))) (by decide +kernel))) (goodIn_sub (fun _ h => List.mem_cons_of_mem _ (List.mem_append_right _ h)) (by decide +kernel))
set_option maxRecDepth 20000 in
theorem gL_refused_L_prove : GoodIn wsL_refused (va_wsS RL 105 yL_prove wsL_prove) := goodIn_app (goodIn_of _ (by decide +kernel)) ggL_refused_L_prove
set_option maxRecDepth 20000 in
theorem ggL_refused_L_leave_h : GoodIn wsL_refused [.codeWith yL_leave cL_leave 4 (some .int) [(0, 6, 9, 25), (0, 6, 13, 18)]] := goodIn_r _ [252] (by decide +kernel) (by decide +kernel)
set_option maxRecDepth 20000 in
theorem ggL_refused_L_leave_r1 : GoodIn wsL_refused wsL_leave_r1 := goodIn_r _ [48, 117, 3, 4, 253, 254, 255, 18, 256, 53, 54, 122, 123, 22, 55, 56, 57, 26, 58, 28, 241, 214, 215, 216] (by decide +kernel) (by decide +kernel)
set_option maxRecDepth 20000 in
theorem ggL_refused_L_leave_r2 : GoodIn wsL_refused wsL_leave_r2 := goodIn_r _ [29, 36, 217, 127, 128, 129, 130, 131, 132, 133, 134, 135, 136, 137, 138, 139, 140, 35, 37, 32, 33, 34, 141, 100] (by decide +kernel) (by decide +kernel)
set_option maxRecDepth 20000 in
theorem ggL_refused_L_leave_r3 : GoodIn wsL_refused wsL_leave_r3 := goodIn_r _ [31, 63, 30, 73, 112, 113, 64, 142, 143, 144, 145, 146, 147, 148, 149, 150, 151, 152, 153, 154, 77, 155, 156, 157] (by decide +kernel) (by decide +kernel)
set_option maxRecDepth 20000 in
theorem ggL_refused_L_leave_r4 : GoodIn wsL_refused wsL_leave_r4 := goodIn_r _ [79, 80, 88, 158, 159, 160, 161, 162, 257, 258, 259, 260, 38, 39, 40, 41, 42, 43, 44] (by decide +kernel) (by decide +kernel)
set_option maxRecDepth 20000 in
theorem ggL_refused_L_leave_x4 : GoodIn wsL_refused wsX40 := goodIn_r _ [354, 355, 356, 357, 358, 359, 360] (by decide +kernel) (by decide +kernel)
set_option maxRecDepth 20000 in
theorem ggL_refused_L_leave_x1 : GoodIn wsL_refused wsX10 := goodIn_r _ [361, 362, 363, 364, 365, 366, 367, 368, 369, 370, 371, 372, 373, 374, 375, 376, 377] (by decide +kernel) (by decide +kernel)
set_option maxRecDepth 20000 in
theorem ggL_refused_L_leave_x0 : GoodIn wsL_refused wsX00 := goodIn_r _ [378, 379, 380, 381] (by decide +kernel) (by decide +kernel)
set_option maxRecDepth 20000 in
theorem ggL_refused_L_leave : GoodIn wsL_refused wsL_leave := goodIn_ca (goodIn_ca (goodIn_cc ggL_refused_L_leave_h (goodIn_app (goodIn_app (goodIn_app (goodIn_app ggL_refused_L_leave_r1 (goodIn_app ggL_refused_L_leave_r2 (goodIn_app ggL_refused_L_leave_r3 (ggL_refused_L_leave_r4)))) ggL_refused_L_leave_x4) ggL_refused_L_leave_x1) ggL_refused_L_leave_x0)) (goodIn_sub (fun _ h => List.mem_cons_of_mem _ (List.mem_append_left _ (List.mem_append_right _ h))) (by decide +kernel))) (goodIn_sub (fun _ h => List.mem_cons_of_mem _ (List.mem_append_right _ h)) (by decide +kernel))
set_option maxRecDepth 20000 in
theorem gL_refused_L_leave : GoodIn wsL_refused (va_wsS RL 107 yL_leave wsL_leave) := goodIn_app (goodIn_of _ (by decide +kernel)) ggL_refused_L_leave
set_option maxRecDepth 20000 in
theorem ggL_refused_L_accuse_h : GoodIn wsL_refused [.codeWith yL_accuse cL_accuse 4 (some .int) [(0, 6, 9, 25), (0, 6, 13, 18)]] := goodIn_r _ [263] (by decide +kernel) (by decide +kernel)
set_option maxRecDepth 20000 in
theorem ggL_refused_L_accuse_r1 : GoodIn wsL_refused wsL_accuse_r1 := goodIn_r _ [48, 117, 3, 4, 264, 265, 266, 18, 267, 53, 54, 122, 123, 22, 238, 239, 240, 127, 128, 129, 130, 131, 132, 133] (by decide +kernel) (by decide +kernel)
set_option maxRecDepth 20000 in
theorem ggL_refused_L_accuse_r2 : GoodIn wsL_refused wsL_accuse_r2 := goodIn_r _ [134, 135, 136, 137, 138, 139, 26, 140, 35, 28, 29, 37, 32, 33, 34, 36, 141, 100, 31, 63, 30, 73, 112, 113] (by decide +kernel) (by decide +kernel)
set_option maxRecDepth 20000 in
theorem ggL_refused_L_accuse_r3 : GoodIn wsL_refused wsL_accuse_r3 := goodIn_r _ [64, 142, 143, 144, 145, 146, 147, 148, 149, 150, 151, 152, 153, 154, 77, 155, 156, 157, 79, 80, 88, 158, 159, 160] (by decide +kernel) (by decide +kernel)
set_option maxRecDepth 20000 in
theorem ggL_refused_L_accuse_r4 : GoodIn wsL_refused wsL_accuse_r4 := goodIn_r _ [161, 162, 268, 269, 270, 271] (by decide +kernel) (by decide +kernel)
set_option maxRecDepth 20000 in
theorem ggL_refused_L_accuse_x4 : GoodIn wsL_refused wsX40 := goodIn_r _ [354, 355, 356, 357, 358, 359, 360] (by decide +kernel) (by decide +kernel)
set_option maxRecDepth 20000 in
theorem ggL_refused_L_accuse_x1 : GoodIn wsL_refused wsX10 := goodIn_r _ [361, 362, 363, 364, 365, 366, 367, 368, 369, 370, 371, 372, 373, 374, 375, 376, 377] (by decide +kernel) (by decide +kernel)
set_option maxRecDepth 20000 in
theorem ggL_refused_L_accuse_x0 : GoodIn wsL_refused wsX00 := goodIn_r _ [378, 379, 380, 381] (by decide +kernel) (by decide +kernel)
set_option maxRecDepth 20000 in
theorem ggL_refused_L_accuse : GoodIn wsL_refused wsL_accuse := goodIn_ca (goodIn_ca (goodIn_cc ggL_refused_L_accuse_h (goodIn_app (goodIn_app (goodIn_app (goodIn_app ggL_refused_L_accuse_r1 (goodIn_app ggL_refused_L_accuse_r2 (goodIn_app ggL_refused_L_accuse_r3 (ggL_refused_L_accuse_r4)))) ggL_refused_L_accuse_x4) ggL_refused_L_accuse_x1) ggL_refused_L_accuse_x0)) (goodIn_sub (fun _ h => List.mem_cons_of_mem _ (List.mem_append_left _ (List.mem_append_right _ h))) (by decide +kernel))) (goodIn_sub (fun _ h => List.mem_cons_of_mem _ (List.mem_append_right _ h)) (by decide +kernel))
set_option maxRecDepth 20000 in
theorem gL_refused_L_accuse : GoodIn wsL_refused (va_wsS RL 109 yL_accuse wsL_accuse) := goodIn_app (goodIn_of _ (by decide +kernel)) ggL_refused_L_accuse
set_option maxRecDepth 20000 in
theorem ggL_refused_L_guest_h : GoodIn wsL_refused [.codeWith yL_guest cL_guest 5 (some .int) [(0, 7, 10, 25), (0, 7, 15, 15)]] := goodIn_r _ [47] (by decide +kernel) (by decide +kernel)
set_option maxRecDepth 20000 in
theorem ggL_refused_L_guest_r1 : GoodIn wsL_refused wsL_guest_r1 := goodIn_r _ [48, 14, 3, 1, 49, 50, 51, 18, 52, 53, 54, 20, 21, 22, 55, 56, 57, 26, 58, 28, 59, 60, 61, 62] (by decide +kernel) (by decide +kernel)
set_option maxRecDepth 20000 in
theorem ggL_refused_L_guest_r2 : GoodIn wsL_refused wsL_guest_r2 := goodIn_r _ [36, 63, 64, 29, 65, 66, 67, 68, 69, 70, 71, 72, 30, 73, 74, 75, 76, 77, 78, 79, 80, 81, 82, 83] (by decide +kernel) (by decide +kernel)
set_option maxRecDepth 20000 in
theorem ggL_refused_L_guest_r3 : GoodIn wsL_refused wsL_guest_r3 := goodIn_r _ [84, 85, 86, 87, 88, 89, 90, 91, 92, 93, 94, 95, 96, 97, 98, 99, 100] (by decide +kernel) (by decide +kernel)
set_option maxRecDepth 20000 in
theorem ggL_refused_L_guest_x4 : GoodIn wsL_refused wsX40 := goodIn_r _ [354, 355, 356, 357, 358, 359, 360] (by decide +kernel) (by decide +kernel)
set_option maxRecDepth 20000 in
theorem ggL_refused_L_guest_x1 : GoodIn wsL_refused wsX10 := goodIn_r _ [361, 362, 363, 364, 365, 366, 367, 368, 369, 370, 371, 372, 373, 374, 375, 376, 377] (by decide +kernel) (by decide +kernel)
