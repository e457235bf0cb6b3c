set_option maxRecDepth 20000 in
theorem ggL_begin_X4_begin_r4 : GoodIn wsL_begin wsX4_begin_r4 := goodIn_r _ [81, 82, 83, 84, 85, 86, 87, 88, 89, 90, 91, 92, 93, 94, 95, 96, 97, 98, 99, 100, 101, 102, 103, 104] (by decide +kernel) (by decide +kernel)
set_option maxRecDepth 20000 in
theorem ggL_begin_X4_begin_r5 : GoodIn wsL_begin wsX4_begin_r5 := goodIn_r _ [105, 106, 107, 108, 109, 110, 111, 112, 113, 114, 115, 116, 117, 118, 119, 120, 121, 122, 123, 124] (by decide +kernel) (by decide +kernel)
set_option maxRecDepth 20000 in
theorem ggL_begin_X4_begin_x4 : GoodIn wsL_begin wsX40 := goodIn_r _ [125, 126, 127, 128, 129, 130, 131] (by decide +kernel) (by decide +kernel)
set_option maxRecDepth 20000 in
theorem ggL_begin_X4_begin_x1 : GoodIn wsL_begin wsX10 := goodIn_r _ [132, 133, 134, 135, 136, 137, 138, 139, 140, 141, 142, 143, 144, 145, 146, 147, 148] (by decide +kernel) (by decide +kernel)
set_option maxRecDepth 20000 in
theorem ggL_begin_X4_begin_x0 : GoodIn wsL_begin wsX00 := goodIn_r _ [149, 150, 151, 152] (by decide +kernel) (by decide +kernel)
set_option maxRecDepth 20000 in
theorem ggL_begin_X4_begin : GoodIn wsL_begin wsX4_begin := goodIn_ca (goodIn_ca (goodIn_cc ggL_begin_X4_begin_h (goodIn_app (goodIn_app (goodIn_app (goodIn_app ggL_begin_X4_begin_r1 (goodIn_app ggL_begin_X4_begin_r2 (goodIn_app ggL_begin_X4_begin_r3 (goodIn_app ggL_begin_X4_begin_r4 (ggL_begin_X4_begin_r5))))) ggL_begin_X4_begin_x4) ggL_begin_X4_begin_x1) ggL_begin_X4_begin_x0)) (goodIn_sub (fun _ h => List.mem_cons_of_mem _ (List.mem_append_left _ (List.mem_append_right _ h))) (by decide +kernel))) (goodIn_sub (fun _ h => List.mem_cons_of_mem _ (List.mem_append_right _ h)) (by decide +kernel))
set_option maxRecDepth 20000 in
theorem gL_begin_X4_begin : GoodIn wsL_begin (wsV RL 9 RX4 yX4_begin wsX4_begin) := goodIn_app (goodIn_of _ (by decide +kernel)) ggL_begin_X4_begin
theorem dL_begin_0 : decode cL_begin 0 = .ok (.aload_n 0, 1) := by decide +kernel
theorem dL_begin_1 : decode cL_begin 1 = .ok (.iload_n 1, 1) := by decide +kernel
theorem dL_begin_2 : decode cL_begin 2 = .ok (.iload_n 2, 1) := by decide +kernel
theorem dL_begin_3 : decode cL_begin 3 = .ok (.invokevirtual 9, 3) := by decide +kernel
theorem dL_begin_6 : decode cL_begin 6 = .ok (.istore_n 3, 1) := by decide +kernel
theorem dL_begin_7 : decode cL_begin 7 = .ok (.goto 13, 3) := by decide +kernel
theorem dL_begin_10 : decode cL_begin 10 = .ok (.astore 4, 2) := by decide +kernel
theorem dL_begin_12 : decode cL_begin 12 = .ok (.ldc 17, 2) := by decide +kernel
theorem dL_begin_14 : decode cL_begin 14 = .ok (.ireturn, 1) := by decide +kernel
theorem dL_begin_15 : decode cL_begin 15 = .ok (.astore 4, 2) := by decide +kernel
theorem dL_begin_17 : decode cL_begin 17 = .ok (.ldc 20, 2) := by decide +kernel
theorem dL_begin_19 : decode cL_begin 19 = .ok (.ireturn, 1) := by decide +kernel
theorem dL_begin_20 : decode cL_begin 20 = .ok (.iload_n 3, 1) := by decide +kernel
theorem dL_begin_21 : decode cL_begin 21 = .ok (.ireturn, 1) := by decide +kernel
set_option maxRecDepth 20000 in
theorem ggL_ask_X4_ask_h : GoodIn wsL_ask [.code yX4_ask cX4_ask 4 (some .int)] := goodIn_r _ [11] (by decide +kernel) (by decide +kernel)
set_option maxRecDepth 20000 in
theorem ggL_ask_X4_ask_r1 : GoodIn wsL_ask wsX4_ask_r1 := goodIn_r _ [12, 13, 14, 15, 16, 17, 18, 19, 20, 21, 22, 23, 24, 25, 26, 10, 27, 28, 29, 30, 31, 32, 33, 34] (by decide +kernel) (by decide +kernel)
set_option maxRecDepth 20000 in
theorem ggL_ask_X4_ask_r2 : GoodIn wsL_ask wsX4_ask_r2 := goodIn_r _ [35, 36, 37, 38, 39, 40, 41, 42, 43, 44, 45, 46, 47, 48, 49, 50, 51, 52, 53, 54, 55, 56, 57, 58] (by decide +kernel) (by decide +kernel)
set_option maxRecDepth 20000 in
theorem ggL_ask_X4_ask_r3 : GoodIn wsL_ask wsX4_ask_r3 := goodIn_r _ [59, 60, 61, 62, 63, 64, 65, 66, 67, 68, 69, 70, 71, 72, 73, 74, 75, 76, 77, 78, 79, 80, 81, 82] (by decide +kernel) (by decide +kernel)
set_option maxRecDepth 20000 in
theorem ggL_ask_X4_ask_r4 : GoodIn wsL_ask wsX4_ask_r4 := goodIn_r _ [83, 84, 85, 86, 87, 88, 89, 90, 91, 92, 93, 94, 95, 96, 97, 98, 99, 100, 101, 102, 103, 104, 105, 106] (by decide +kernel) (by decide +kernel)
set_option maxRecDepth 20000 in
theorem ggL_ask_X4_ask_r5 : GoodIn wsL_ask wsX4_ask_r5 := goodIn_r _ [107, 108, 109, 110, 111, 112, 113, 114, 115, 116, 117, 118, 119, 120, 121, 122, 123, 124, 125, 126, 127, 128, 129, 130] (by decide +kernel) (by decide +kernel)
set_option maxRecDepth 20000 in
theorem ggL_ask_X4_ask_x4 : GoodIn wsL_ask wsX40 := goodIn_r _ [131, 132, 133, 134, 135, 136, 137] (by decide +kernel) (by decide +kernel)
set_option maxRecDepth 20000 in
theorem ggL_ask_X4_ask_x1 : GoodIn wsL_ask wsX10 := goodIn_r _ [138, 139, 140, 141, 142, 143, 144, 145, 146, 147, 148, 149, 150, 151, 152, 153, 154] (by decide +kernel) (by decide +kernel)
set_option maxRecDepth 20000 in
theorem ggL_ask_X4_ask_x0 : GoodIn wsL_ask wsX00 := goodIn_r _ [155, 156, 157, 158] (by decide +kernel) (by decide +kernel)
set_option maxRecDepth 20000 in
theorem ggL_ask_X4_ask : GoodIn wsL_ask wsX4_ask := goodIn_ca (goodIn_ca (goodIn_ca (goodIn_cc ggL_ask_X4_ask_h (goodIn_app (goodIn_app (goodIn_app (goodIn_app ggL_ask_X4_ask_r1 (goodIn_app ggL_ask_X4_ask_r2 (goodIn_app ggL_ask_X4_ask_r3 (goodIn_app ggL_ask_X4_ask_r4 (ggL_ask_X4_ask_r5))))) ggL_ask_X4_ask_x4) ggL_ask_X4_ask_x1) ggL_ask_X4_ask_x0)) (goodIn_sub (fun _ h => List.mem_cons_of_mem _ (List.mem_append_left _ (List.mem_append_left _ (List.mem_append_right _ h)))) (by decide +kernel))) (goodIn_sub (fun _ h => List.mem_cons_of_mem _ (List.mem_append_left _ (List.mem_append_right _ h))) (by decide +kernel))) (goodIn_sub (fun _ h => List.mem_cons_of_mem _ (List.mem_append_right _ h)) (by decide +kernel))
set_option maxRecDepth 20000 in
theorem gL_ask_X4_ask : GoodIn wsL_ask (wsV RL 21 RX4 yX4_ask wsX4_ask) := goodIn_app (goodIn_of _ (by decide +kernel)) ggL_ask_X4_ask
theorem dL_ask_0 : decode cL_ask 0 = .ok (.aload_n 0, 1) := by decide +kernel
theorem dL_ask_1 : decode cL_ask 1 = .ok (.iload_n 1, 1) := by decide +kernel
theorem dL_ask_2 : decode cL_ask 2 = .ok (.iload_n 2, 1) := by decide +kernel
theorem dL_ask_3 : decode cL_ask 3 = .ok (.iload_n 3, 1) := by decide +kernel
theorem dL_ask_4 : decode cL_ask 4 = .ok (.invokevirtual 21, 3) := by decide +kernel
theorem dL_ask_7 : decode cL_ask 7 = .ok (.istore 4, 2) := by decide +kernel
theorem dL_ask_9 : decode cL_ask 9 = .ok (.goto 18, 3) := by decide +kernel
theorem dL_ask_12 : decode cL_ask 12 = .ok (.astore 5, 2) := by decide +kernel
theorem dL_ask_14 : decode cL_ask 14 = .ok (.ldc 27, 2) := by decide +kernel
theorem dL_ask_16 : decode cL_ask 16 = .ok (.ireturn, 1) := by decide +kernel
theorem dL_ask_17 : decode cL_ask 17 = .ok (.astore 5, 2) := by decide +kernel
theorem dL_ask_19 : decode cL_ask 19 = .ok (.ldc 17, 2) := by decide +kernel
theorem dL_ask_21 : decode cL_ask 21 = .ok (.ireturn, 1) := by decide +kernel
theorem dL_ask_22 : decode cL_ask 22 = .ok (.astore 5, 2) := by decide +kernel
theorem dL_ask_24 : decode cL_ask 24 = .ok (.ldc 20, 2) := by decide +kernel
theorem dL_ask_26 : decode cL_ask 26 = .ok (.ireturn, 1) := by decide +kernel
theorem dL_ask_27 : decode cL_ask 27 = .ok (.iload 4, 2) := by decide +kernel
theorem dL_ask_29 : decode cL_ask 29 = .ok (.ireturn, 1) := by decide +kernel
set_option maxRecDepth 20000 in
theorem ggL_prove_X4_prove_h : GoodIn wsL_prove [.code yX4_prove cX4_prove 3 (some .boolean)] := goodIn_r _ [9] (by decide +kernel) (by decide +kernel)
set_option maxRecDepth 20000 in
theorem ggL_prove_X4_prove_r1 : GoodIn wsL_prove wsX4_prove_r1 := goodIn_r _ [10, 11, 12, 13, 14, 15, 16, 17, 18, 19, 20, 21, 22, 8, 23, 24, 25, 26, 27, 28, 29, 30, 31, 32] (by decide +kernel) (by decide +kernel)
set_option maxRecDepth 20000 in
theorem ggL_prove_X4_prove_r2 : GoodIn wsL_prove wsX4_prove_r2 := goodIn_r _ [33, 34, 35, 36, 37, 38, 39, 40, 41, 42, 43, 44, 45, 46, 47, 48, 49, 50, 51, 52, 53, 54, 55, 56] (by decide +kernel) (by decide +kernel)
set_option maxRecDepth 20000 in
theorem ggL_prove_X4_prove_r3 : GoodIn wsL_prove wsX4_prove_r3 := goodIn_r _ [57, 58, 59, 60, 61, 62, 63, 64, 65, 66, 67, 68, 69, 70, 71, 72, 73, 74, 75, 76, 77, 78, 79, 80] (by decide +kernel) (by decide +kernel)
set_option maxRecDepth 20000 in
theorem ggL_prove_X4_prove_r4 : GoodIn wsL_prove wsX4_prove_r4 := goodIn_r _ [81, 82, 83, 84, 85, 86, 87, 88, 89, 90, 91, 92, 93, 94, 95, 96, 97, 98, 99, 100, 101, 102, 103, 104] (by decide +kernel) (by decide +kernel)
set_option maxRecDepth 20000 in
theorem ggL_prove_X4_prove_r5 : GoodIn wsL_prove wsX4_prove_r5 := goodIn_r _ [105, 106, 107] (by decide +kernel) (by decide +kernel)
