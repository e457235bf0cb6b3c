set_option maxRecDepth 20000 in
theorem ggL_isAccused_L_print_r3 : GoodIn wsL_isAccused wsL_print_r3 := goodIn_r _ [52, 53, 54, 55, 56, 57, 58, 59, 60, 61, 62, 63, 64, 65, 66, 67, 68, 69, 70, 71, 72, 73, 74, 75] (by decide +kernel) (by decide +kernel)
set_option maxRecDepth 20000 in
theorem ggL_isAccused_L_print_r4 : GoodIn wsL_isAccused wsL_print_r4 := goodIn_r _ [76, 77, 78, 79, 80, 81, 82, 83, 84, 85, 86, 87, 88, 89, 90, 91, 92, 93, 94, 95, 96, 97, 98, 99] (by decide +kernel) (by decide +kernel)
set_option maxRecDepth 20000 in
theorem ggL_isAccused_L_print_r5 : GoodIn wsL_isAccused wsL_print_r5 := goodIn_r _ [100, 101, 102, 103, 104, 105, 106, 107, 108, 109, 110, 111] (by decide +kernel) (by decide +kernel)
set_option maxRecDepth 20000 in
theorem ggL_isAccused_L_print_x4 : GoodIn wsL_isAccused wsX40 := goodIn_r _ [188, 189, 190, 191, 192, 193, 194] (by decide +kernel) (by decide +kernel)
set_option maxRecDepth 20000 in
theorem ggL_isAccused_L_print_x1 : GoodIn wsL_isAccused wsX10 := goodIn_r _ [195, 196, 197, 198, 199, 200, 201, 202, 203, 204, 205, 206, 207, 208, 209, 210, 211] (by decide +kernel) (by decide +kernel)
set_option maxRecDepth 20000 in
theorem ggL_isAccused_L_print_x0 : GoodIn wsL_isAccused wsX00 := goodIn_r _ [212, 213, 214, 215] (by decide +kernel) (by decide +kernel)
set_option maxRecDepth 20000 in
theorem ggL_isAccused_L_print : GoodIn wsL_isAccused wsL_print := goodIn_ca (goodIn_ca (goodIn_cc ggL_isAccused_L_print_h (goodIn_app (goodIn_app (goodIn_app (goodIn_app ggL_isAccused_L_print_r1 (goodIn_app ggL_isAccused_L_print_r2 (goodIn_app ggL_isAccused_L_print_r3 (goodIn_app ggL_isAccused_L_print_r4 (ggL_isAccused_L_print_r5))))) ggL_isAccused_L_print_x4) ggL_isAccused_L_print_x1) ggL_isAccused_L_print_x0)) (goodIn_sub (fun _ h => List.mem_cons_of_mem _ (List.mem_append_left _ (List.mem_append_left _ (List.mem_append_right _ h)))) (by decide +kernel))) (goodIn_sub (fun _ h => List.mem_cons_of_mem _ (List.mem_append_left _ (List.mem_append_right _ h))) (by decide +kernel))
set_option maxRecDepth 20000 in
theorem gL_isAccused_L_print : GoodIn wsL_isAccused (va_wsS RL 95 yL_print wsL_print) := goodIn_app (goodIn_of _ (by decide +kernel)) ggL_isAccused_L_print
set_option maxRecDepth 20000 in
theorem ggL_isAccused_X4_culprits : GoodIn wsL_isAccused wsX4_culprits := goodIn_r _ [115, 14, 116, 83, 84, 75, 85, 86, 79, 80, 81, 188, 189, 190, 191, 192, 193, 194, 195, 196, 197, 198, 199, 200, 201, 202, 203, 204, 205, 206, 207, 208, 209, 210, 211, 212, 213, 214, 215] (by decide +kernel) (by decide +kernel)
set_option maxRecDepth 20000 in
theorem gL_isAccused_X4_culprits : GoodIn wsL_isAccused (wsV RL 130 RX4 yX4_culprits wsX4_culprits) := goodIn_app (goodIn_of _ (by decide +kernel)) ggL_isAccused_X4_culprits
set_option maxRecDepth 20000 in
theorem ggL_isAccused_L_accuse_h : GoodIn wsL_isAccused [.codeWith yL_accuse cL_accuse 4 (some .int) [(0, 6, 9, 25), (0, 6, 13, 18)]] := goodIn_r _ [119] (by decide +kernel) (by decide +kernel)
set_option maxRecDepth 20000 in
theorem ggL_isAccused_L_accuse_r1 : GoodIn wsL_isAccused wsL_accuse_r1 := goodIn_r _ [45, 120, 46, 121, 122, 123, 124, 10, 125, 51, 52, 126, 127, 14, 128, 129, 130, 131, 132, 133, 134, 135, 136, 137] (by decide +kernel) (by decide +kernel)
set_option maxRecDepth 20000 in
theorem ggL_isAccused_L_accuse_r2 : GoodIn wsL_isAccused wsL_accuse_r2 := goodIn_r _ [138, 139, 140, 141, 142, 143, 18, 144, 27, 20, 21, 29, 24, 25, 26, 28, 145, 98, 23, 61, 22, 71, 110, 111] (by decide +kernel) (by decide +kernel)
set_option maxRecDepth 20000 in
theorem ggL_isAccused_L_accuse_r3 : GoodIn wsL_isAccused wsL_accuse_r3 := goodIn_r _ [62, 146, 147, 148, 149, 150, 151, 152, 153, 154, 155, 156, 157, 158, 75, 159, 160, 161, 77, 78, 86, 162, 163, 164] (by decide +kernel) (by decide +kernel)
set_option maxRecDepth 20000 in
theorem ggL_isAccused_L_accuse_r4 : GoodIn wsL_isAccused wsL_accuse_r4 := goodIn_r _ [165, 166, 167, 168, 169, 170] (by decide +kernel) (by decide +kernel)
set_option maxRecDepth 20000 in
theorem ggL_isAccused_L_accuse_x4 : GoodIn wsL_isAccused wsX40 := goodIn_r _ [188, 189, 190, 191, 192, 193, 194] (by decide +kernel) (by decide +kernel)
set_option maxRecDepth 20000 in
theorem ggL_isAccused_L_accuse_x1 : GoodIn wsL_isAccused wsX10 := goodIn_r _ [195, 196, 197, 198, 199, 200, 201, 202, 203, 204, 205, 206, 207, 208, 209, 210, 211] (by decide +kernel) (by decide +kernel)
set_option maxRecDepth 20000 in
theorem ggL_isAccused_L_accuse_x0 : GoodIn wsL_isAccused wsX00 := goodIn_r _ [212, 213, 214, 215] (by decide +kernel) (by decide +kernel)
set_option maxRecDepth 20000 in
theorem ggL_isAccused_L_accuse : GoodIn wsL_isAccused wsL_accuse := goodIn_ca (goodIn_ca (goodIn_cc ggL_isAccused_L_accuse_h (goodIn_app (goodIn_app (goodIn_app (goodIn_app ggL_isAccused_L_accuse_r1 (goodIn_app ggL_isAccused_L_accuse_r2 (goodIn_app ggL_isAccused_L_accuse_r3 (ggL_isAccused_L_accuse_r4)))) ggL_isAccused_L_accuse_x4) ggL_isAccused_L_accuse_x1) ggL_isAccused_L_accuse_x0)) (goodIn_sub (fun _ h => List.mem_cons_of_mem _ (List.mem_append_left _ (List.mem_append_right _ h))) (by decide +kernel))) (goodIn_sub (fun _ h => List.mem_cons_of_mem _ (List.mem_append_right _ h)) (by decide +kernel))
set_option maxRecDepth 20000 in
theorem gL_isAccused_L_accuse : GoodIn wsL_isAccused (va_wsS RL 109 yL_accuse wsL_accuse) := goodIn_app (goodIn_of _ (by decide +kernel)) ggL_isAccused_L_accuse
set_option maxRecDepth 20000 in
theorem ggL_isAccused_L_areGuests_h : GoodIn wsL_isAccused [.code yL_areGuests cL_areGuests 11 (some .boolean)] := goodIn_r _ [173] (by decide +kernel) (by decide +kernel)
set_option maxRecDepth 20000 in
theorem ggL_isAccused_L_areGuests_r1 : GoodIn wsL_isAccused wsL_areGuests_r1 := goodIn_r _ [1, 2, 3, 4, 5, 6, 7, 8, 9, 10, 11, 12, 13, 14, 15, 16, 17, 18, 19, 20, 21, 22, 23, 24] (by decide +kernel) (by decide +kernel)
set_option maxRecDepth 20000 in
theorem ggL_isAccused_L_areGuests_r2 : GoodIn wsL_isAccused wsL_areGuests_r2 := goodIn_r _ [25, 26, 27, 28, 29, 30, 31, 32, 33, 34, 35, 36, 42, 43, 44, 45, 46, 47, 48, 49, 50, 51, 52, 53] (by decide +kernel) (by decide +kernel)
set_option maxRecDepth 20000 in
theorem ggL_isAccused_L_areGuests_r3 : GoodIn wsL_isAccused wsL_areGuests_r3 := goodIn_r _ [54, 55, 56, 57, 58, 59, 60, 61, 62, 63, 64, 65, 66, 67, 68, 69, 70, 71, 72, 73, 74, 75, 76, 77] (by decide +kernel) (by decide +kernel)
set_option maxRecDepth 20000 in
theorem ggL_isAccused_L_areGuests_r4 : GoodIn wsL_isAccused wsL_areGuests_r4 := goodIn_r _ [78, 79, 80, 81, 82, 83, 84, 85, 86, 87, 88, 89, 90, 91, 92, 93, 94, 95, 96, 97, 98, 174, 175, 176] (by decide +kernel) (by decide +kernel)
