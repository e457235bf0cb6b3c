set_option maxRecDepth 20000 in
theorem ggL_dealsIf_X4_dealsIf_r3 : GoodIn wsL_dealsIf wsX4_dealsIf_r3 := goodIn_r _ [57, 58] (by decide +kernel) (by decide +kernel)
set_option maxRecDepth 20000 in
theorem ggL_dealsIf_X4_dealsIf_x4 : GoodIn wsL_dealsIf wsX40 := goodIn_r _ [59, 60, 61, 62, 63, 64, 65] (by decide +kernel) (by decide +kernel)
set_option maxRecDepth 20000 in
theorem ggL_dealsIf_X4_dealsIf_x1 : GoodIn wsL_dealsIf wsX10 := goodIn_r _ [66, 67, 68, 69, 70, 71, 72, 73, 74, 75, 76, 77, 78, 79, 80, 81, 82] (by decide +kernel) (by decide +kernel)
set_option maxRecDepth 20000 in
theorem ggL_dealsIf_X4_dealsIf_x2 : GoodIn wsL_dealsIf wsX20 := goodIn_r _ [83, 84, 85] (by decide +kernel) (by decide +kernel)
set_option maxRecDepth 20000 in
theorem ggL_dealsIf_X4_dealsIf_x0 : GoodIn wsL_dealsIf wsX00 := goodIn_r _ [86, 87, 88, 89] (by decide +kernel) (by decide +kernel)
set_option maxRecDepth 20000 in
theorem ggL_dealsIf_X4_dealsIf : GoodIn wsL_dealsIf wsX4_dealsIf := goodIn_ca (goodIn_ca (goodIn_cc ggL_dealsIf_X4_dealsIf_h (goodIn_app (goodIn_app (goodIn_app (goodIn_app (goodIn_app ggL_dealsIf_X4_dealsIf_r1 (goodIn_app ggL_dealsIf_X4_dealsIf_r2 (ggL_dealsIf_X4_dealsIf_r3))) ggL_dealsIf_X4_dealsIf_x4) ggL_dealsIf_X4_dealsIf_x1) ggL_dealsIf_X4_dealsIf_x2) ggL_dealsIf_X4_dealsIf_x0)) (goodIn_sub (fun _ h => List.mem_cons_of_mem _ (List.mem_append_left _ (List.mem_append_right _ h))) (by decide +kernel))) (goodIn_sub (fun _ h => List.mem_cons_of_mem _ (List.mem_append_right _ h)) (by decide +kernel))
set_option maxRecDepth 20000 in
theorem gL_dealsIf_X4_dealsIf : GoodIn wsL_dealsIf (wsV RL 60 RX4 yX4_dealsIf wsX4_dealsIf) := goodIn_app (goodIn_of _ (by decide +kernel)) ggL_dealsIf_X4_dealsIf
theorem dL_dealsIf_0 : decode cL_dealsIf 0 = .ok (.aload_n 0, 1) := by decide +kernel
theorem dL_dealsIf_1 : decode cL_dealsIf 1 = .ok (.iload_n 1, 1) := by decide +kernel
theorem dL_dealsIf_2 : decode cL_dealsIf 2 = .ok (.iload_n 2, 1) := by decide +kernel
theorem dL_dealsIf_3 : decode cL_dealsIf 3 = .ok (.iload_n 3, 1) := by decide +kernel
theorem dL_dealsIf_4 : decode cL_dealsIf 4 = .ok (.invokevirtual 60, 3) := by decide +kernel
theorem dL_dealsIf_7 : decode cL_dealsIf 7 = .ok (.istore 4, 2) := by decide +kernel
theorem dL_dealsIf_9 : decode cL_dealsIf 9 = .ok (.goto 13, 3) := by decide +kernel
theorem dL_dealsIf_12 : decode cL_dealsIf 12 = .ok (.astore 5, 2) := by decide +kernel
theorem dL_dealsIf_14 : decode cL_dealsIf 14 = .ok (.ldc 27, 2) := by decide +kernel
theorem dL_dealsIf_16 : decode cL_dealsIf 16 = .ok (.ireturn, 1) := by decide +kernel
theorem dL_dealsIf_17 : decode cL_dealsIf 17 = .ok (.astore 5, 2) := by decide +kernel
theorem dL_dealsIf_19 : decode cL_dealsIf 19 = .ok (.ldc 17, 2) := by decide +kernel
theorem dL_dealsIf_21 : decode cL_dealsIf 21 = .ok (.ireturn, 1) := by decide +kernel
theorem dL_dealsIf_22 : decode cL_dealsIf 22 = .ok (.iload 4, 2) := by decide +kernel
theorem dL_dealsIf_24 : decode cL_dealsIf 24 = .ok (.ireturn, 1) := by decide +kernel
set_option maxRecDepth 20000 in
theorem ggL_worst_X4_worst_h : GoodIn wsL_worst [.code yX4_worst cX4_worst 3 (some .int)] := goodIn_r _ [9] (by decide +kernel) (by decide +kernel)
set_option maxRecDepth 20000 in
theorem ggL_worst_X4_worst_r1 : GoodIn wsL_worst wsX4_worst_r1 := goodIn_r _ [10, 11, 12, 13, 14, 15, 16, 17, 18, 19, 20, 21, 22, 23, 8, 24, 25, 26, 27, 28, 29, 30, 31, 32] (by decide +kernel) (by decide +kernel)
set_option maxRecDepth 20000 in
theorem ggL_worst_X4_worst_r2 : GoodIn wsL_worst wsX4_worst_r2 := goodIn_r _ [33, 34, 35, 36, 37, 38, 39, 40, 41, 42, 43, 44, 45, 46, 47, 48, 49, 50, 51, 52, 53, 54, 55, 56] (by decide +kernel) (by decide +kernel)
set_option maxRecDepth 20000 in
theorem ggL_worst_X4_worst_r3 : GoodIn wsL_worst wsX4_worst_r3 := goodIn_r _ [57, 58, 59, 60, 61, 62] (by decide +kernel) (by decide +kernel)
set_option maxRecDepth 20000 in
theorem ggL_worst_X4_worst_x4 : GoodIn wsL_worst wsX40 := goodIn_r _ [63, 64, 65, 66, 67, 68, 69] (by decide +kernel) (by decide +kernel)
set_option maxRecDepth 20000 in
theorem ggL_worst_X4_worst_x1 : GoodIn wsL_worst wsX10 := goodIn_r _ [70, 71, 72, 73, 74, 75, 76, 77, 78, 79, 80, 81, 82, 83, 84, 85, 86] (by decide +kernel) (by decide +kernel)
set_option maxRecDepth 20000 in
theorem ggL_worst_X4_worst_x2 : GoodIn wsL_worst wsX20 := goodIn_r _ [87, 88, 89] (by decide +kernel) (by decide +kernel)
set_option maxRecDepth 20000 in
theorem ggL_worst_X4_worst_x0 : GoodIn wsL_worst wsX00 := goodIn_r _ [90, 91, 92, 93] (by decide +kernel) (by decide +kernel)
set_option maxRecDepth 20000 in
theorem ggL_worst_X4_worst : GoodIn wsL_worst wsX4_worst := goodIn_ca (goodIn_ca (goodIn_cc ggL_worst_X4_worst_h (goodIn_app (goodIn_app (goodIn_app (goodIn_app (goodIn_app ggL_worst_X4_worst_r1 (goodIn_app ggL_worst_X4_worst_r2 (ggL_worst_X4_worst_r3))) ggL_worst_X4_worst_x4) ggL_worst_X4_worst_x1) ggL_worst_X4_worst_x2) ggL_worst_X4_worst_x0)) (goodIn_sub (fun _ h => List.mem_cons_of_mem _ (List.mem_append_left _ (List.mem_append_right _ h))) (by decide +kernel))) (goodIn_sub (fun _ h => List.mem_cons_of_mem _ (List.mem_append_right _ h)) (by decide +kernel))
set_option maxRecDepth 20000 in
theorem gL_worst_X4_worst : GoodIn wsL_worst (wsV RL 64 RX4 yX4_worst wsX4_worst) := goodIn_app (goodIn_of _ (by decide +kernel)) ggL_worst_X4_worst
theorem dL_worst_0 : decode cL_worst 0 = .ok (.aload_n 0, 1) := by decide +kernel
theorem dL_worst_1 : decode cL_worst 1 = .ok (.iload_n 1, 1) := by decide +kernel
theorem dL_worst_2 : decode cL_worst 2 = .ok (.iload_n 2, 1) := by decide +kernel
theorem dL_worst_3 : decode cL_worst 3 = .ok (.invokevirtual 64, 3) := by decide +kernel
theorem dL_worst_6 : decode cL_worst 6 = .ok (.istore_n 3, 1) := by decide +kernel
theorem dL_worst_7 : decode cL_worst 7 = .ok (.goto 13, 3) := by decide +kernel
theorem dL_worst_10 : decode cL_worst 10 = .ok (.astore 4, 2) := by decide +kernel
theorem dL_worst_12 : decode cL_worst 12 = .ok (.ldc 27, 2) := by decide +kernel
theorem dL_worst_14 : decode cL_worst 14 = .ok (.ireturn, 1) := by decide +kernel
theorem dL_worst_15 : decode cL_worst 15 = .ok (.astore 4, 2) := by decide +kernel
theorem dL_worst_17 : decode cL_worst 17 = .ok (.ldc 17, 2) := by decide +kernel
theorem dL_worst_19 : decode cL_worst 19 = .ok (.ireturn, 1) := by decide +kernel
theorem dL_worst_20 : decode cL_worst 20 = .ok (.iload_n 3, 1) := by decide +kernel
theorem dL_worst_21 : decode cL_worst 21 = .ok (.ireturn, 1) := by decide +kernel
set_option maxRecDepth 20000 in
theorem ggL_bestCards_X4_bestCards_h : GoodIn wsL_bestCards [.code yX4_bestCards cX4_bestCards 2 (some .int)] := goodIn_r _ [7] (by decide +kernel) (by decide +kernel)
set_option maxRecDepth 20000 in
theorem ggL_bestCards_X4_bestCards_r1 : GoodIn wsL_bestCards wsX4_bestCards_r1 := goodIn_r _ [8, 9, 10, 11, 12, 13, 14, 15, 16, 17, 18, 19, 20, 21, 22, 23, 24, 25, 26, 27, 28, 29, 30, 31] (by decide +kernel) (by decide +kernel)
set_option maxRecDepth 20000 in
theorem ggL_bestCards_X4_bestCards_r2 : GoodIn wsL_bestCards wsX4_bestCards_r2 := goodIn_r _ [32, 33, 34, 35, 36, 37, 38, 39, 40, 41, 42, 43, 44, 45, 46, 47, 48, 49, 50, 51, 52, 53, 54, 55] (by decide +kernel) (by decide +kernel)
set_option maxRecDepth 20000 in
theorem ggL_bestCards_X4_bestCards_r3 : GoodIn wsL_bestCards wsX4_bestCards_r3 := goodIn_r _ [56, 57, 58, 59] (by decide +kernel) (by decide +kernel)
set_option maxRecDepth 20000 in
theorem ggL_bestCards_X4_bestCards_x4 : GoodIn wsL_bestCards wsX40 := goodIn_r _ [60, 61, 62, 63, 64, 65, 66] (by decide +kernel) (by decide +kernel)
set_option maxRecDepth 20000 in
theorem ggL_bestCards_X4_bestCards_x1 : GoodIn wsL_bestCards wsX10 := goodIn_r _ [67, 68, 69, 70, 71, 72, 73, 74, 75, 76, 77, 78, 79, 80, 81, 82, 83] (by decide +kernel) (by decide +kernel)
set_option maxRecDepth 20000 in
theorem ggL_bestCards_X4_bestCards_x2 : GoodIn wsL_bestCards wsX20 := goodIn_r _ [84, 85, 86] (by decide +kernel) (by decide +kernel)
set_option maxRecDepth 20000 in
theorem ggL_bestCards_X4_bestCards_x0 : GoodIn wsL_bestCards wsX00 := goodIn_r _ [87, 88, 89, 90] (by decide +kernel) (by decide +kernel)
set_option maxRecDepth 20000 in
theorem ggL_bestCards_X4_bestCards : GoodIn wsL_bestCards wsX4_bestCards := goodIn_ca (goodIn_cc ggL_bestCards_X4_bestCards_h (goodIn_app (goodIn_app (goodIn_app (goodIn_app (goodIn_app ggL_bestCards_X4_bestCards_r1 (goodIn_app ggL_bestCards_X4_bestCards_r2 (ggL_bestCards_X4_bestCards_r3))) ggL_bestCards_X4_bestCards_x4) ggL_bestCards_X4_bestCards_x1) ggL_bestCards_X4_bestCards_x2) ggL_bestCards_X4_bestCards_x0)) (goodIn_sub (fun _ h => List.mem_cons_of_mem _ (List.mem_append_right _ h)) (by decide +kernel))
set_option maxRecDepth 20000 in
theorem gL_bestCards_X4_bestCards : GoodIn wsL_bestCards (wsV RL 67 RX4 yX4_bestCards wsX4_bestCards) := goodIn_app (goodIn_of _ (by decide +kernel)) ggL_bestCards_X4_bestCards
theorem dL_bestCards_0 : decode cL_bestCards 0 = .ok (.aload_n 0, 1) := by decide +kernel
theorem dL_bestCards_1 : decode cL_bestCards 1 = .ok (.iload_n 1, 1) := by decide +kernel
theorem dL_bestCards_2 : decode cL_bestCards 2 = .ok (.invokevirtual 67, 3) := by decide +kernel
theorem dL_bestCards_5 : decode cL_bestCards 5 = .ok (.istore_n 2, 1) := by decide +kernel
theorem dL_bestCards_6 : decode cL_bestCards 6 = .ok (.goto 7, 3) := by decide +kernel
theorem dL_bestCards_9 : decode cL_bestCards 9 = .ok (.astore_n 3, 1) := by decide +kernel
theorem dL_bestCards_10 : decode cL_bestCards 10 = .ok (.ldc 27, 2) := by decide +kernel
theorem dL_bestCards_12 : decode cL_bestCards 12 = .ok (.ireturn, 1) := by decide +kernel
theorem dL_bestCards_13 : decode cL_bestCards 13 = .ok (.iload_n 2, 1) := by decide +kernel
theorem dL_bestCards_14 : decode cL_bestCards 14 = .ok (.ireturn, 1) := by decide +kernel
set_option maxRecDepth 20000 in
theorem ggL_leftByProof_X4_leftByProof_h : GoodIn wsL_leftByProof [.code yX4_leftByProof cX4_leftByProof 5 (some .double)] := goodIn_r _ [7] (by decide +kernel) (by decide +kernel)
set_option maxRecDepth 20000 in
theorem ggL_leftByProof_X4_leftByProof_r1 : GoodIn wsL_leftByProof wsX4_leftByProof_r1 := goodIn_r _ [8, 9, 10, 11, 12, 13, 14, 15, 16, 17, 18, 6, 19, 20, 21, 22, 23, 24, 25, 26, 27, 28, 29, 30] (by decide +kernel) (by decide +kernel)
set_option maxRecDepth 20000 in
theorem ggL_leftByProof_X4_leftByProof_r2 : GoodIn wsL_leftByProof wsX4_leftByProof_r2 := goodIn_r _ [31, 32, 33, 34, 35, 36, 37, 38, 39, 40] (by decide +kernel) (by decide +kernel)
set_option maxRecDepth 20000 in
theorem ggL_leftByProof_X4_leftByProof_x4 : GoodIn wsL_leftByProof wsX40 := goodIn_r _ [41, 42, 43, 44, 45, 46, 47] (by decide +kernel) (by decide +kernel)
set_option maxRecDepth 20000 in
theorem ggL_leftByProof_X4_leftByProof_x1 : GoodIn wsL_leftByProof wsX10 := goodIn_r _ [48, 49, 50, 51, 52, 53, 54, 55, 56, 57, 58, 59, 60, 61, 62, 63, 64] (by decide +kernel) (by decide +kernel)
set_option maxRecDepth 20000 in
theorem ggL_leftByProof_X4_leftByProof_x0 : GoodIn wsL_leftByProof wsX00 := goodIn_r _ [65, 66, 67, 68] (by decide +kernel) (by decide +kernel)
set_option maxRecDepth 20000 in
theorem ggL_leftByProof_X4_leftByProof : GoodIn wsL_leftByProof wsX4_leftByProof := goodIn_ca (goodIn_cc ggL_leftByProof_X4_leftByProof_h (goodIn_app (goodIn_app (goodIn_app (goodIn_app ggL_leftByProof_X4_leftByProof_r1 (ggL_leftByProof_X4_leftByProof_r2)) ggL_leftByProof_X4_leftByProof_x4) ggL_leftByProof_X4_leftByProof_x1) ggL_leftByProof_X4_leftByProof_x0)) (goodIn_sub (fun _ h => List.mem_cons_of_mem _ (List.mem_append_right _ h)) (by decide +kernel))
set_option maxRecDepth 20000 in
theorem gL_leftByProof_X4_leftByProof : GoodIn wsL_leftByProof (wsV RL 70 RX4 yX4_leftByProof wsX4_leftByProof) := goodIn_app (goodIn_of _ (by decide +kernel)) ggL_leftByProof_X4_leftByProof
theorem dL_leftByProof_0 : decode cL_leftByProof 0 = .ok (.aload_n 0, 1) := by decide +kernel
theorem dL_leftByProof_1 : decode cL_leftByProof 1 = .ok (.iload_n 1, 1) := by decide +kernel
theorem dL_leftByProof_2 : decode cL_leftByProof 2 = .ok (.iload_n 2, 1) := by decide +kernel
theorem dL_leftByProof_3 : decode cL_leftByProof 3 = .ok (.invokevirtual 70, 3) := by decide +kernel
theorem dL_leftByProof_6 : decode cL_leftByProof 6 = .ok (.dstore_n 3, 1) := by decide +kernel
theorem dL_leftByProof_7 : decode cL_leftByProof 7 = .ok (.goto 9, 3) := by decide +kernel
theorem dL_leftByProof_10 : decode cL_leftByProof 10 = .ok (.astore 5, 2) := by decide +kernel
theorem dL_leftByProof_12 : decode cL_leftByProof 12 = .ok (.ldc2_w 58, 3) := by decide +kernel
theorem dL_leftByProof_15 : decode cL_leftByProof 15 = .ok (.dreturn, 1) := by decide +kernel
theorem dL_leftByProof_16 : decode cL_leftByProof 16 = .ok (.dload_n 3, 1) := by decide +kernel
theorem dL_leftByProof_17 : decode cL_leftByProof 17 = .ok (.dreturn, 1) := by decide +kernel
set_option maxRecDepth 20000 in
theorem ggL_append_X4_append : GoodIn wsL_append wsX4_append := goodIn_ca (goodIn_ca (goodIn_r _ [9, 10, 11, 12, 13, 14, 15, 16, 17, 18, 19, 20, 21, 22, 23, 24, 25, 26, 27, 28, 29, 30, 31, 32, 33, 34, 35] (by decide +kernel) (by decide +kernel)) (goodIn_sub (fun _ h => List.mem_cons_of_mem _ (List.mem_append_left _ (List.mem_append_right _ h))) (by decide +kernel))) (goodIn_sub (fun _ h => List.mem_cons_of_mem _ (List.mem_append_right _ h)) (by decide +kernel))
set_option maxRecDepth 20000 in
theorem gL_append_X4_append : GoodIn wsL_append (wsV RL 74 RX4 yX4_append wsX4_append) := goodIn_app (goodIn_of _ (by decide +kernel)) ggL_append_X4_append
theorem dL_append_0 : decode cL_append 0 = .ok (.aload_n 0, 1) := by decide +kernel
theorem dL_append_1 : decode cL_append 1 = .ok (.iload_n 1, 1) := by decide +kernel
theorem dL_append_2 : decode cL_append 2 = .ok (.invokevirtual 74, 3) := by decide +kernel
theorem dL_append_5 : decode cL_append 5 = .ok (.istore_n 2, 1) := by decide +kernel
theorem dL_append_6 : decode cL_append 6 = .ok (.goto 11, 3) := by decide +kernel
theorem dL_append_9 : decode cL_append 9 = .ok (.astore_n 3, 1) := by decide +kernel
theorem dL_append_10 : decode cL_append 10 = .ok (.ldc 17, 2) := by decide +kernel
theorem dL_append_12 : decode cL_append 12 = .ok (.ireturn, 1) := by decide +kernel
theorem dL_append_13 : decode cL_append 13 = .ok (.astore_n 3, 1) := by decide +kernel
