theorem dL_print_99 : decode cL_print 99 = .ok (.ladd, 1) := by decide +kernel
theorem dL_print_100 : decode cL_print 100 = .ok (.lstore_n 1, 1) := by decide +kernel
theorem dL_print_101 : decode cL_print 101 = .ok (.iinc 3 1, 3) := by decide +kernel
theorem dL_print_104 : decode cL_print 104 = .ok (.goto (-71), 3) := by decide +kernel
theorem dL_print_107 : decode cL_print 107 = .ok (.iconst 0, 1) := by decide +kernel
theorem dL_print_108 : decode cL_print 108 = .ok (.istore_n 3, 1) := by decide +kernel
theorem dL_print_109 : decode cL_print 109 = .ok (.iload_n 3, 1) := by decide +kernel
theorem dL_print_110 : decode cL_print 110 = .ok (.bipush 60, 2) := by decide +kernel
theorem dL_print_112 : decode cL_print 112 = .ok (.if_icmp .ge 27, 3) := by decide +kernel
theorem dL_print_115 : decode cL_print 115 = .ok (.ldc2_w 83, 3) := by decide +kernel
theorem dL_print_118 : decode cL_print 118 = .ok (.lload_n 1, 1) := by decide +kernel
theorem dL_print_119 : decode cL_print 119 = .ok (.lmul, 1) := by decide +kernel
theorem dL_print_120 : decode cL_print 120 = .ok (.aload_n 0, 1) := by decide +kernel
theorem dL_print_121 : decode cL_print 121 = .ok (.iload_n 3, 1) := by decide +kernel
theorem dL_print_122 : decode cL_print 122 = .ok (.iconst 3, 1) := by decide +kernel
theorem dL_print_123 : decode cL_print 123 = .ok (.idiv, 1) := by decide +kernel
theorem dL_print_124 : decode cL_print 124 = .ok (.iload_n 3, 1) := by decide +kernel
theorem dL_print_125 : decode cL_print 125 = .ok (.iconst 3, 1) := by decide +kernel
theorem dL_print_126 : decode cL_print 126 = .ok (.irem, 1) := by decide +kernel
theorem dL_print_127 : decode cL_print 127 = .ok (.invokestatic 93, 3) := by decide +kernel
theorem dL_print_130 : decode cL_print 130 = .ok (.i2l, 1) := by decide +kernel
theorem dL_print_131 : decode cL_print 131 = .ok (.ladd, 1) := by decide +kernel
theorem dL_print_132 : decode cL_print 132 = .ok (.lstore_n 1, 1) := by decide +kernel
theorem dL_print_133 : decode cL_print 133 = .ok (.iinc 3 1, 3) := by decide +kernel
theorem dL_print_136 : decode cL_print 136 = .ok (.goto (-27), 3) := by decide +kernel
theorem dL_print_139 : decode cL_print 139 = .ok (.lload_n 1, 1) := by decide +kernel
theorem dL_print_140 : decode cL_print 140 = .ok (.lreturn, 1) := by decide +kernel
theorem dL_ones_0 : decode cL_ones 0 = .ok (.iconst 0, 1) := by decide +kernel
theorem dL_ones_1 : decode cL_ones 1 = .ok (.istore_n 1, 1) := by decide +kernel
theorem dL_ones_2 : decode cL_ones 2 = .ok (.iload_n 0, 1) := by decide +kernel
theorem dL_ones_3 : decode cL_ones 3 = .ok (.istore_n 2, 1) := by decide +kernel
theorem dL_ones_4 : decode cL_ones 4 = .ok (.iload_n 2, 1) := by decide +kernel
theorem dL_ones_5 : decode cL_ones 5 = .ok (.ifCond .eq 15, 3) := by decide +kernel
theorem dL_ones_8 : decode cL_ones 8 = .ok (.iinc 1 1, 3) := by decide +kernel
theorem dL_ones_11 : decode cL_ones 11 = .ok (.iload_n 2, 1) := by decide +kernel
theorem dL_ones_12 : decode cL_ones 12 = .ok (.iload_n 2, 1) := by decide +kernel
theorem dL_ones_13 : decode cL_ones 13 = .ok (.iconst 1, 1) := by decide +kernel
theorem dL_ones_14 : decode cL_ones 14 = .ok (.isub, 1) := by decide +kernel
theorem dL_ones_15 : decode cL_ones 15 = .ok (.iand, 1) := by decide +kernel
theorem dL_ones_16 : decode cL_ones 16 = .ok (.istore_n 2, 1) := by decide +kernel
theorem dL_ones_17 : decode cL_ones 17 = .ok (.goto (-13), 3) := by decide +kernel
theorem dL_ones_20 : decode cL_ones 20 = .ok (.iload_n 1, 1) := by decide +kernel
theorem dL_ones_21 : decode cL_ones 21 = .ok (.ireturn, 1) := by decide +kernel
set_option maxRecDepth 20000 in
theorem ggL_refused_L_print_h : GoodIn wsL_refused [.code yL_print cL_print 4 (some .long)] := goodIn_r _ [8] (by decide +kernel) (by decide +kernel)
set_option maxRecDepth 20000 in
theorem ggL_refused_L_print_r1 : GoodIn wsL_refused wsL_print_r1 := goodIn_r _ [9, 10, 11, 12, 7, 13, 14, 1, 15, 16, 17, 18, 19, 20, 21, 22, 23, 24, 25, 26, 27, 28, 29, 30] (by decide +kernel) (by decide +kernel)
set_option maxRecDepth 20000 in
theorem ggL_refused_L_print_r2 : GoodIn wsL_refused wsL_print_r2 := goodIn_r _ [31, 32, 33, 34, 35, 36, 37, 38, 39, 40, 41, 42, 43, 44, 45, 46, 47, 48, 3, 49, 50, 51, 52, 53] (by decide +kernel) (by decide +kernel)
set_option maxRecDepth 20000 in
theorem ggL_refused_L_print_r3 : GoodIn wsL_refused wsL_print_r3 := goodIn_r _ [54, 55, 56, 57, 58, 59, 60, 61, 62, 63, 64, 65, 66, 67, 68, 69, 70, 71, 72, 73, 74, 75, 76, 77] (by decide +kernel) (by decide +kernel)
set_option maxRecDepth 20000 in
theorem ggL_refused_L_print_r4 : GoodIn wsL_refused wsL_print_r4 := goodIn_r _ [78, 79, 80, 81, 82, 83, 84, 85, 86, 87, 88, 89, 90, 91, 92, 93, 94, 95, 96, 97, 98, 99, 100, 101] (by decide +kernel) (by decide +kernel)
set_option maxRecDepth 20000 in
theorem ggL_refused_L_print_r5 : GoodIn wsL_refused wsL_print_r5 := goodIn_r _ [102, 103, 104, 105, 106, 107, 108, 109, 110, 111, 112, 113] (by decide +kernel) (by decide +kernel)
set_option maxRecDepth 20000 in
theorem ggL_refused_L_print_x4 : GoodIn wsL_refused wsX40 := goodIn_r _ [354, 355, 356, 357, 358, 359, 360] (by decide +kernel) (by decide +kernel)
set_option maxRecDepth 20000 in
theorem ggL_refused_L_print_x1 : GoodIn wsL_refused wsX10 := goodIn_r _ [361, 362, 363, 364, 365, 366, 367, 368, 369, 370, 371, 372, 373, 374, 375, 376, 377] (by decide +kernel) (by decide +kernel)
set_option maxRecDepth 20000 in
theorem ggL_refused_L_print_x0 : GoodIn wsL_refused wsX00 := goodIn_r _ [378, 379, 380, 381] (by decide +kernel) (by decide +kernel)
set_option maxRecDepth 20000 in
theorem ggL_refused_L_print : GoodIn wsL_refused wsL_print := goodIn_ca (goodIn_ca (goodIn_cc ggL_refused_L_print_h (goodIn_app (goodIn_app (goodIn_app (goodIn_app ggL_refused_L_print_r1 (goodIn_app ggL_refused_L_print_r2 (goodIn_app ggL_refused_L_print_r3 (goodIn_app ggL_refused_L_print_r4 (ggL_refused_L_print_r5))))) ggL_refused_L_print_x4) ggL_refused_L_print_x1) ggL_refused_L_print_x0)) (goodIn_sub (fun _ h => List.mem_cons_of_mem _ (List.mem_append_left _ (List.mem_append_left _ (List.mem_append_right _ h)))) (by decide +kernel))) (goodIn_sub (fun _ h => List.mem_cons_of_mem _ (List.mem_append_left _ (List.mem_append_right _ h))) (by decide +kernel))
set_option maxRecDepth 20000 in
theorem gL_refused_L_print : GoodIn wsL_refused (va_wsS RL 95 yL_print wsL_print) := goodIn_app (goodIn_of _ (by decide +kernel)) ggL_refused_L_print
set_option maxRecDepth 20000 in
theorem ggL_refused_L_value : GoodIn wsL_refused wsL_value := goodIn_ca (goodIn_r _ [13, 14, 1, 15, 16, 17, 18, 19, 20, 21, 22, 23, 24, 25, 26, 27, 28, 29, 30, 31, 32, 33, 34, 35, 36, 37, 38, 39, 40, 41, 42, 43, 44, 354, 355, 356, 357, 358, 359, 360, 361, 362, 363, 364, 365, 366, 367, 368, 369, 370, 371, 372, 373, 374, 375, 376, 377] (by decide +kernel) (by decide +kernel)) (goodIn_sub (fun _ h => List.mem_cons_of_mem _ (List.mem_append_left _ (List.mem_append_left _ (List.mem_append_right _ h)))) (by decide +kernel))
set_option maxRecDepth 20000 in
theorem gL_refused_L_value : GoodIn wsL_refused (va_wsS RL 85 yL_value wsL_value) := goodIn_app (goodIn_of _ (by decide +kernel)) ggL_refused_L_value
set_option maxRecDepth 20000 in
theorem ggL_refused_L_begin_h : GoodIn wsL_refused [.codeWith yL_begin cL_begin 5 (some .int) [(0, 7, 10, 15), (0, 7, 15, 18)]] := goodIn_r _ [116] (by decide +kernel) (by decide +kernel)
set_option maxRecDepth 20000 in
theorem ggL_refused_L_begin_r1 : GoodIn wsL_refused wsL_begin_r1 := goodIn_r _ [14, 117, 1, 4, 118, 119, 120, 18, 121, 20, 21, 122, 123, 124, 22, 125, 126, 127, 128, 129, 130, 131, 132, 133] (by decide +kernel) (by decide +kernel)
set_option maxRecDepth 20000 in
theorem ggL_refused_L_begin_r2 : GoodIn wsL_refused wsL_begin_r2 := goodIn_r _ [134, 135, 136, 137, 138, 139, 26, 140, 35, 28, 29, 37, 32, 33, 34, 36, 141, 100, 31, 63, 30, 73, 112, 113] (by decide +kernel) (by decide +kernel)
set_option maxRecDepth 20000 in
theorem ggL_refused_L_begin_r3 : GoodIn wsL_refused wsL_begin_r3 := goodIn_r _ [64, 142, 143, 144, 145, 146, 147, 148, 149, 150, 151, 152, 153, 154, 77, 155, 156, 157, 79, 80, 88, 158, 159, 160] (by decide +kernel) (by decide +kernel)
set_option maxRecDepth 20000 in
theorem ggL_refused_L_begin_r4 : GoodIn wsL_refused wsL_begin_r4 := goodIn_r _ [161, 162, 163, 164, 165, 166, 167, 168, 169, 170, 171, 172, 173, 81, 82, 83, 174, 39, 40, 41, 42, 43, 44, 65] (by decide +kernel) (by decide +kernel)
set_option maxRecDepth 20000 in
theorem ggL_refused_L_begin_r5 : GoodIn wsL_refused wsL_begin_r5 := goodIn_r _ [66, 67, 68, 175, 176, 177, 178, 179, 180, 181, 182, 183, 184, 185, 186, 187, 188, 189, 190, 191, 192, 193, 194, 195] (by decide +kernel) (by decide +kernel)
