theorem dL_value_1 : decode cL_value 1 = .ok (.iload_n 1, 1) := by decide +kernel
theorem dL_value_2 : decode cL_value 2 = .ok (.invokevirtual 42, 3) := by decide +kernel
theorem dL_value_5 : decode cL_value 5 = .ok (.istore_n 2, 1) := by decide +kernel
theorem dL_value_6 : decode cL_value 6 = .ok (.goto 7, 3) := by decide +kernel
theorem dL_value_9 : decode cL_value 9 = .ok (.astore_n 3, 1) := by decide +kernel
theorem dL_value_10 : decode cL_value 10 = .ok (.ldc 17, 2) := by decide +kernel
theorem dL_value_12 : decode cL_value 12 = .ok (.ireturn, 1) := by decide +kernel
theorem dL_value_13 : decode cL_value 13 = .ok (.iload_n 2, 1) := by decide +kernel
theorem dL_value_14 : decode cL_value 14 = .ok (.ireturn, 1) := by decide +kernel
set_option maxRecDepth 20000 in
theorem ggL_question_X4_question : GoodIn wsL_question wsX4_question := goodIn_ca (goodIn_ca (goodIn_r _ [9, 10, 11, 12, 13, 14, 15, 16, 17, 18, 19, 20, 21, 22, 23, 24, 25, 26, 27, 28, 29, 30, 31, 32, 33, 34, 35, 36, 37, 38, 39, 40, 41, 42, 43, 44, 45, 46] (by decide +kernel) (by decide +kernel)) (goodIn_sub (fun _ h => List.mem_cons_of_mem _ (List.mem_append_left _ (List.mem_append_right _ h))) (by decide +kernel))) (goodIn_sub (fun _ h => List.mem_cons_of_mem _ (List.mem_append_right _ h)) (by decide +kernel))
set_option maxRecDepth 20000 in
theorem gL_question_X4_question : GoodIn wsL_question (wsV RL 45 RX4 yX4_question wsX4_question) := goodIn_app (goodIn_of _ (by decide +kernel)) ggL_question_X4_question
theorem dL_question_0 : decode cL_question 0 = .ok (.aload_n 0, 1) := by decide +kernel
theorem dL_question_1 : decode cL_question 1 = .ok (.iload_n 1, 1) := by decide +kernel
theorem dL_question_2 : decode cL_question 2 = .ok (.iload_n 2, 1) := by decide +kernel
theorem dL_question_3 : decode cL_question 3 = .ok (.invokevirtual 45, 3) := by decide +kernel
theorem dL_question_6 : decode cL_question 6 = .ok (.istore_n 3, 1) := by decide +kernel
theorem dL_question_7 : decode cL_question 7 = .ok (.goto 13, 3) := by decide +kernel
theorem dL_question_10 : decode cL_question 10 = .ok (.astore 4, 2) := by decide +kernel
theorem dL_question_12 : decode cL_question 12 = .ok (.ldc 27, 2) := by decide +kernel
theorem dL_question_14 : decode cL_question 14 = .ok (.ireturn, 1) := by decide +kernel
theorem dL_question_15 : decode cL_question 15 = .ok (.astore 4, 2) := by decide +kernel
theorem dL_question_17 : decode cL_question 17 = .ok (.ldc 17, 2) := by decide +kernel
theorem dL_question_19 : decode cL_question 19 = .ok (.ireturn, 1) := by decide +kernel
theorem dL_question_20 : decode cL_question 20 = .ok (.iload_n 3, 1) := by decide +kernel
theorem dL_question_21 : decode cL_question 21 = .ok (.ireturn, 1) := by decide +kernel
set_option maxRecDepth 20000 in
theorem ggL_dealsWith_X4_dealsWith : GoodIn wsL_dealsWith wsX4_dealsWith := goodIn_ca (goodIn_r _ [7, 8, 9, 10, 11, 12, 6, 13, 14, 15, 16, 17, 18, 19, 20, 21, 22, 23, 24, 25, 26, 27, 28, 29, 30, 31, 32, 33, 34, 35, 36, 37, 38, 39, 40, 41, 42, 43, 44, 45, 46, 47, 48, 49, 50, 51, 52, 53, 54, 55, 56, 57, 58, 59] (by decide +kernel) (by decide +kernel)) (goodIn_sub (fun _ h => List.mem_cons_of_mem _ (List.mem_append_right _ h)) (by decide +kernel))
set_option maxRecDepth 20000 in
theorem gL_dealsWith_X4_dealsWith : GoodIn wsL_dealsWith (wsV RL 48 RX4 yX4_dealsWith wsX4_dealsWith) := goodIn_app (goodIn_of _ (by decide +kernel)) ggL_dealsWith_X4_dealsWith
theorem dL_dealsWith_0 : decode cL_dealsWith 0 = .ok (.aload_n 0, 1) := by decide +kernel
theorem dL_dealsWith_1 : decode cL_dealsWith 1 = .ok (.iload_n 1, 1) := by decide +kernel
theorem dL_dealsWith_2 : decode cL_dealsWith 2 = .ok (.invokevirtual 48, 3) := by decide +kernel
theorem dL_dealsWith_5 : decode cL_dealsWith 5 = .ok (.istore_n 2, 1) := by decide +kernel
theorem dL_dealsWith_6 : decode cL_dealsWith 6 = .ok (.goto 7, 3) := by decide +kernel
theorem dL_dealsWith_9 : decode cL_dealsWith 9 = .ok (.astore_n 3, 1) := by decide +kernel
theorem dL_dealsWith_10 : decode cL_dealsWith 10 = .ok (.ldc 27, 2) := by decide +kernel
theorem dL_dealsWith_12 : decode cL_dealsWith 12 = .ok (.ireturn, 1) := by decide +kernel
theorem dL_dealsWith_13 : decode cL_dealsWith 13 = .ok (.iload_n 2, 1) := by decide +kernel
theorem dL_dealsWith_14 : decode cL_dealsWith 14 = .ok (.ireturn, 1) := by decide +kernel
set_option maxRecDepth 20000 in
theorem ggL_dealsHeld_X4_dealsHeld : GoodIn wsL_dealsHeld wsX4_dealsHeld := goodIn_ca (goodIn_r _ [7, 8, 9, 10, 11, 12, 13, 14, 15, 16, 17, 18, 6, 19, 20, 21, 22, 23, 24, 25, 26, 27, 28, 29, 30, 31, 32, 33, 34, 35, 36, 37, 38, 39, 40, 41, 42, 43, 44, 45, 46, 47, 48, 49, 50, 51, 52, 53, 54, 55, 56, 57, 58, 59, 60, 61, 62, 63, 64, 65] (by decide +kernel) (by decide +kernel)) (goodIn_sub (fun _ h => List.mem_cons_of_mem _ (List.mem_append_right _ h)) (by decide +kernel))
set_option maxRecDepth 20000 in
theorem gL_dealsHeld_X4_dealsHeld : GoodIn wsL_dealsHeld (wsV RL 51 RX4 yX4_dealsHeld wsX4_dealsHeld) := goodIn_app (goodIn_of _ (by decide +kernel)) ggL_dealsHeld_X4_dealsHeld
theorem dL_dealsHeld_0 : decode cL_dealsHeld 0 = .ok (.aload_n 0, 1) := by decide +kernel
theorem dL_dealsHeld_1 : decode cL_dealsHeld 1 = .ok (.iload_n 1, 1) := by decide +kernel
theorem dL_dealsHeld_2 : decode cL_dealsHeld 2 = .ok (.iload_n 2, 1) := by decide +kernel
theorem dL_dealsHeld_3 : decode cL_dealsHeld 3 = .ok (.invokevirtual 51, 3) := by decide +kernel
theorem dL_dealsHeld_6 : decode cL_dealsHeld 6 = .ok (.istore_n 3, 1) := by decide +kernel
theorem dL_dealsHeld_7 : decode cL_dealsHeld 7 = .ok (.goto 8, 3) := by decide +kernel
theorem dL_dealsHeld_10 : decode cL_dealsHeld 10 = .ok (.astore 4, 2) := by decide +kernel
theorem dL_dealsHeld_12 : decode cL_dealsHeld 12 = .ok (.ldc 27, 2) := by decide +kernel
theorem dL_dealsHeld_14 : decode cL_dealsHeld 14 = .ok (.ireturn, 1) := by decide +kernel
theorem dL_dealsHeld_15 : decode cL_dealsHeld 15 = .ok (.iload_n 3, 1) := by decide +kernel
theorem dL_dealsHeld_16 : decode cL_dealsHeld 16 = .ok (.ireturn, 1) := by decide +kernel
set_option maxRecDepth 20000 in
theorem ggL_chance_X4_chance : GoodIn wsL_chance wsX4_chance := goodIn_ca (goodIn_r _ [7, 8, 9, 10, 11, 12, 6, 13, 14, 15, 16, 17, 18, 19, 20, 21, 22, 23, 24, 25, 26, 27, 28, 29, 30, 31, 32, 33, 34, 35, 36, 37, 38, 39, 40, 41, 42, 43, 44, 45, 46, 47, 48, 49, 50, 51, 52, 53, 54, 55, 56, 57, 58, 59, 60, 61, 62] (by decide +kernel) (by decide +kernel)) (goodIn_sub (fun _ h => List.mem_cons_of_mem _ (List.mem_append_right _ h)) (by decide +kernel))
set_option maxRecDepth 20000 in
theorem gL_chance_X4_chance : GoodIn wsL_chance (wsV RL 54 RX4 yX4_chance wsX4_chance) := goodIn_app (goodIn_of _ (by decide +kernel)) ggL_chance_X4_chance
theorem dL_chance_0 : decode cL_chance 0 = .ok (.aload_n 0, 1) := by decide +kernel
theorem dL_chance_1 : decode cL_chance 1 = .ok (.iload_n 1, 1) := by decide +kernel
theorem dL_chance_2 : decode cL_chance 2 = .ok (.invokevirtual 54, 3) := by decide +kernel
theorem dL_chance_5 : decode cL_chance 5 = .ok (.dstore_n 2, 1) := by decide +kernel
theorem dL_chance_6 : decode cL_chance 6 = .ok (.goto 9, 3) := by decide +kernel
theorem dL_chance_9 : decode cL_chance 9 = .ok (.astore 4, 2) := by decide +kernel
theorem dL_chance_11 : decode cL_chance 11 = .ok (.ldc2_w 58, 3) := by decide +kernel
theorem dL_chance_14 : decode cL_chance 14 = .ok (.dreturn, 1) := by decide +kernel
theorem dL_chance_15 : decode cL_chance 15 = .ok (.dload_n 2, 1) := by decide +kernel
theorem dL_chance_16 : decode cL_chance 16 = .ok (.dreturn, 1) := by decide +kernel
set_option maxRecDepth 20000 in
theorem ggL_dealsIf_X4_dealsIf : GoodIn wsL_dealsIf wsX4_dealsIf := goodIn_ca (goodIn_ca (goodIn_r _ [9, 10, 11, 12, 13, 14, 15, 16, 17, 18, 19, 20, 21, 22, 23, 8, 24, 25, 26, 27, 28, 29, 30, 31, 32, 33, 34, 35, 36, 37, 38, 39, 40, 41, 42, 43, 44, 45, 46, 47, 48, 49, 50, 51, 52, 53, 54, 55, 56, 57, 58, 59, 60, 61, 62, 63, 64, 65, 66, 67, 68, 69, 70, 71, 72, 73, 74, 75, 76, 77, 78, 79, 80, 81, 82, 83, 84, 85, 86, 87, 88, 89] (by decide +kernel) (by decide +kernel)) (goodIn_sub (fun _ h => List.mem_cons_of_mem _ (List.mem_append_left _ (List.mem_append_right _ h))) (by decide +kernel))) (goodIn_sub (fun _ h => List.mem_cons_of_mem _ (List.mem_append_right _ h)) (by decide +kernel))
set_option maxRecDepth 20000 in
theorem gL_dealsIf_X4_dealsIf : GoodIn wsL_dealsIf (wsV RL 60 RX4 yX4_dealsIf wsX4_dealsIf) := goodIn_app (goodIn_of _ (by decide +kernel)) ggL_dealsIf_X4_dealsIf
theorem dL_dealsIf_0 : decode cL_dealsIf 0 = .ok (.aload_n 0, 1) := by decide +kernel
theorem dL_dealsIf_1 : decode cL_dealsIf 1 = .ok (.iload_n 1, 1) := by decide +kernel
theorem dL_dealsIf_2 : decode cL_dealsIf 2 = .ok (.iload_n 2, 1) := by decide +kernel
theorem dL_dealsIf_3 : decode cL_dealsIf 3 = .ok (.iload_n 3, 1) := by decide +kernel
theorem dL_dealsIf_4 : decode cL_dealsIf 4 = .ok (.invokevirtual 60, 3) := by decide +kernel
theorem dL_dealsIf_7 : decode cL_dealsIf 7 = .ok (.istore 4, 2) := by decide +kernel
theorem dL_dealsIf_9 : decode cL_dealsIf 9 = .ok (.goto 13, 3) := by decide +kernel
theorem dL_dealsIf_12 : decode cL_dealsIf 12 = .ok (.astore 5, 2) := by decide +kernel
theorem dL_dealsIf_14 : decode cL_dealsIf 14 = .ok (.ldc 27, 2) := by decide +kernel
theorem dL_dealsIf_16 : decode cL_dealsIf 16 = .ok (.ireturn, 1) := by decide +kernel
theorem dL_dealsIf_17 : decode cL_dealsIf 17 = .ok (.astore 5, 2) := by decide +kernel
theorem dL_dealsIf_19 : decode cL_dealsIf 19 = .ok (.ldc 17, 2) := by decide +kernel
theorem dL_dealsIf_21 : decode cL_dealsIf 21 = .ok (.ireturn, 1) := by decide +kernel
theorem dL_dealsIf_22 : decode cL_dealsIf 22 = .ok (.iload 4, 2) := by decide +kernel
theorem dL_dealsIf_24 : decode cL_dealsIf 24 = .ok (.ireturn, 1) := by decide +kernel
set_option maxRecDepth 20000 in
theorem ggL_worst_X4_worst : GoodIn wsL_worst wsX4_worst := goodIn_ca (goodIn_ca (goodIn_r _ [9, 10, 11, 12, 13, 14, 15, 16, 17, 18, 19, 20, 21, 22, 23, 8, 24, 25, 26, 27, 28, 29, 30, 31, 32, 33, 34, 35, 36, 37, 38, 39, 40, 41, 42, 43, 44, 45, 46, 47, 48, 49, 50, 51, 52, 53, 54, 55, 56, 57, 58, 59, 60, 61, 62, 63, 64, 65, 66, 67, 68, 69, 70, 71, 72, 73, 74, 75, 76, 77, 78, 79, 80, 81, 82, 83, 84, 85, 86, 87, 88, 89, 90, 91, 92, 93] (by decide +kernel) (by decide +kernel)) (goodIn_sub (fun _ h => List.mem_cons_of_mem _ (List.mem_append_left _ (List.mem_append_right _ h))) (by decide +kernel))) (goodIn_sub (fun _ h => List.mem_cons_of_mem _ (List.mem_append_right _ h)) (by decide +kernel))
set_option maxRecDepth 20000 in
theorem gL_worst_X4_worst : GoodIn wsL_worst (wsV RL 64 RX4 yX4_worst wsX4_worst) := goodIn_app (goodIn_of _ (by decide +kernel)) ggL_worst_X4_worst
theorem dL_worst_0 : decode cL_worst 0 = .ok (.aload_n 0, 1) := by decide +kernel
theorem dL_worst_1 : decode cL_worst 1 = .ok (.iload_n 1, 1) := by decide +kernel
theorem dL_worst_2 : decode cL_worst 2 = .ok (.iload_n 2, 1) := by decide +kernel
theorem dL_worst_3 : decode cL_worst 3 = .ok (.invokevirtual 64, 3) := by decide +kernel
theorem dL_worst_6 : decode cL_worst 6 = .ok (.istore_n 3, 1) := by decide +kernel
theorem dL_worst_7 : decode cL_worst 7 = .ok (.goto 13, 3) := by decide +kernel
theorem dL_worst_10 : decode cL_worst 10 = .ok (.astore 4, 2) := by decide +kernel
theorem dL_worst_12 : decode cL_worst 12 = .ok (.ldc 27, 2) := by decide +kernel
theorem dL_worst_14 : decode cL_worst 14 = .ok (.ireturn, 1) := by decide +kernel
theorem dL_worst_15 : decode cL_worst 15 = .ok (.astore 4, 2) := by decide +kernel
theorem dL_worst_17 : decode cL_worst 17 = .ok (.ldc 17, 2) := by decide +kernel
theorem dL_worst_19 : decode cL_worst 19 = .ok (.ireturn, 1) := by decide +kernel
theorem dL_worst_20 : decode cL_worst 20 = .ok (.iload_n 3, 1) := by decide +kernel
theorem dL_worst_21 : decode cL_worst 21 = .ok (.ireturn, 1) := by decide +kernel
set_option maxRecDepth 20000 in
theorem ggL_bestCards_X4_bestCards : GoodIn wsL_bestCards wsX4_bestCards := goodIn_ca (goodIn_r _ [7, 8, 9, 10, 11, 12, 13, 14, 15, 16, 17, 18, 19, 20, 21, 22, 23, 24, 25, 26, 27, 28, 29, 30, 31, 32, 33, 34, 35, 36, 37, 38, 39, 40, 41, 42, 43, 44, 45, 46, 47, 48, 49, 50, 51, 52, 53, 54, 55, 56, 57, 58, 59, 60, 61, 62, 63, 64, 65, 66, 67, 68, 69, 70, 71, 72, 73, 74, 75, 76, 77, 78, 79, 80, 81, 82, 83, 84, 85, 86, 87, 88, 89, 90] (by decide +kernel) (by decide +kernel)) (goodIn_sub (fun _ h => List.mem_cons_of_mem _ (List.mem_append_right _ h)) (by decide +kernel))
set_option maxRecDepth 20000 in
theorem gL_bestCards_X4_bestCards : GoodIn wsL_bestCards (wsV RL 67 RX4 yX4_bestCards wsX4_bestCards) := goodIn_app (goodIn_of _ (by decide +kernel)) ggL_bestCards_X4_bestCards
theorem dL_bestCards_0 : decode cL_bestCards 0 = .ok (.aload_n 0, 1) := by decide +kernel
theorem dL_bestCards_1 : decode cL_bestCards 1 = .ok (.iload_n 1, 1) := by decide +kernel
theorem dL_bestCards_2 : decode cL_bestCards 2 = .ok (.invokevirtual 67, 3) := by decide +kernel
theorem dL_bestCards_5 : decode cL_bestCards 5 = .ok (.istore_n 2, 1) := by decide +kernel
theorem dL_bestCards_6 : decode cL_bestCards 6 = .ok (.goto 7, 3) := by decide +kernel
theorem dL_bestCards_9 : decode cL_bestCards 9 = .ok (.astore_n 3, 1) := by decide +kernel
theorem dL_bestCards_10 : decode cL_bestCards 10 = .ok (.ldc 27, 2) := by decide +kernel
theorem dL_bestCards_12 : decode cL_bestCards 12 = .ok (.ireturn, 1) := by decide +kernel
theorem dL_bestCards_13 : decode cL_bestCards 13 = .ok (.iload_n 2, 1) := by decide +kernel
theorem dL_bestCards_14 : decode cL_bestCards 14 = .ok (.ireturn, 1) := by decide +kernel
set_option maxRecDepth 20000 in
theorem ggL_leftByProof_X4_leftByProof : GoodIn wsL_leftByProof wsX4_leftByProof := goodIn_ca (goodIn_r _ [7, 8, 9, 10, 11, 12, 13, 14, 15, 16, 17, 18, 6, 19, 20, 21, 22, 23, 24, 25, 26, 27, 28, 29, 30, 31, 32, 33, 34, 35, 36, 37, 38, 39, 40, 41, 42, 43, 44, 45, 46, 47, 48, 49, 50, 51, 52, 53, 54, 55, 56, 57, 58, 59, 60, 61, 62, 63, 64, 65, 66, 67, 68] (by decide +kernel) (by decide +kernel)) (goodIn_sub (fun _ h => List.mem_cons_of_mem _ (List.mem_append_right _ h)) (by decide +kernel))
set_option maxRecDepth 20000 in
theorem gL_leftByProof_X4_leftByProof : GoodIn wsL_leftByProof (wsV RL 70 RX4 yX4_leftByProof wsX4_leftByProof) := goodIn_app (goodIn_of _ (by decide +kernel)) ggL_leftByProof_X4_leftByProof
theorem dL_leftByProof_0 : decode cL_leftByProof 0 = .ok (.aload_n 0, 1) := by decide +kernel
theorem dL_leftByProof_1 : decode cL_leftByProof 1 = .ok (.iload_n 1, 1) := by decide +kernel
theorem dL_leftByProof_2 : decode cL_leftByProof 2 = .ok (.iload_n 2, 1) := by decide +kernel
theorem dL_leftByProof_3 : decode cL_leftByProof 3 = .ok (.invokevirtual 70, 3) := by decide +kernel
theorem dL_leftByProof_6 : decode cL_leftByProof 6 = .ok (.dstore_n 3, 1) := by decide +kernel
theorem dL_leftByProof_7 : decode cL_leftByProof 7 = .ok (.goto 9, 3) := by decide +kernel
theorem dL_leftByProof_10 : decode cL_leftByProof 10 = .ok (.astore 5, 2) := by decide +kernel
theorem dL_leftByProof_12 : decode cL_leftByProof 12 = .ok (.ldc2_w 58, 3) := by decide +kernel
theorem dL_leftByProof_15 : decode cL_leftByProof 15 = .ok (.dreturn, 1) := by decide +kernel
theorem dL_leftByProof_16 : decode cL_leftByProof 16 = .ok (.dload_n 3, 1) := by decide +kernel
theorem dL_leftByProof_17 : decode cL_leftByProof 17 = .ok (.dreturn, 1) := by decide +kernel
set_option maxRecDepth 20000 in
theorem ggL_append_X4_append : GoodIn wsL_append wsX4_append := goodIn_ca (goodIn_ca (goodIn_r _ [9, 10, 11, 12, 13, 14, 15, 16, 17, 18, 19, 20, 21, 22, 23, 24, 25, 26, 27, 28, 29, 30, 31, 32, 33, 34, 35] (by decide +kernel) (by decide +kernel)) (goodIn_sub (fun _ h => List.mem_cons_of_mem _ (List.mem_append_left _ (List.mem_append_right _ h))) (by decide +kernel))) (goodIn_sub (fun _ h => List.mem_cons_of_mem _ (List.mem_append_right _ h)) (by decide +kernel))
set_option maxRecDepth 20000 in
theorem gL_append_X4_append : GoodIn wsL_append (wsV RL 74 RX4 yX4_append wsX4_append) := goodIn_app (goodIn_of _ (by decide +kernel)) ggL_append_X4_append
theorem dL_append_0 : decode cL_append 0 = .ok (.aload_n 0, 1) := by decide +kernel
theorem dL_append_1 : decode cL_append 1 = .ok (.iload_n 1, 1) := by decide +kernel
theorem dL_append_2 : decode cL_append 2 = .ok (.invokevirtual 74, 3) := by decide +kernel
theorem dL_append_5 : decode cL_append 5 = .ok (.istore_n 2, 1) := by decide +kernel
theorem dL_append_6 : decode cL_append 6 = .ok (.goto 11, 3) := by decide +kernel
theorem dL_append_9 : decode cL_append 9 = .ok (.astore_n 3, 1) := by decide +kernel
theorem dL_append_10 : decode cL_append 10 = .ok (.ldc 17, 2) := by decide +kernel
theorem dL_append_12 : decode cL_append 12 = .ok (.ireturn, 1) := by decide +kernel
theorem dL_append_13 : decode cL_append 13 = .ok (.astore_n 3, 1) := by decide +kernel
theorem dL_append_14 : decode cL_append 14 = .ok (.ldc 20, 2) := by decide +kernel
theorem dL_append_16 : decode cL_append 16 = .ok (.ireturn, 1) := by decide +kernel
theorem dL_append_17 : decode cL_append 17 = .ok (.iload_n 2, 1) := by decide +kernel
theorem dL_append_18 : decode cL_append 18 = .ok (.ireturn, 1) := by decide +kernel
set_option maxRecDepth 20000 in
theorem ggL_undo_X4_undo : GoodIn wsL_undo wsX4_undo := goodIn_ca (goodIn_r _ [7, 8, 9, 10, 11, 12, 13, 6, 14, 15, 16, 17, 18, 19, 20, 21, 22, 23, 24, 25, 26, 27, 28, 29, 30, 31, 32, 33, 34, 35, 36, 37, 38, 39, 40, 41, 42, 43, 44, 45, 46, 47, 48, 49, 50, 51, 52, 53, 54, 55, 56, 57, 58, 59, 60, 61, 62, 63, 64, 65, 66, 67, 68, 69, 70, 71, 72, 73, 74, 75, 76, 77, 78, 79, 80, 81, 82, 83, 84, 85, 86, 87, 88, 89, 90, 91, 92, 93, 94, 95] (by decide +kernel) (by decide +kernel)) (goodIn_sub (fun _ h => List.mem_cons_of_mem _ (List.mem_append_right _ h)) (by decide +kernel))
set_option maxRecDepth 20000 in
theorem gL_undo_X4_undo : GoodIn wsL_undo (wsV RL 77 RX4 yX4_undo wsX4_undo) := goodIn_app (goodIn_of _ (by decide +kernel)) ggL_undo_X4_undo
theorem dL_undo_0 : decode cL_undo 0 = .ok (.aload_n 0, 1) := by decide +kernel
theorem dL_undo_1 : decode cL_undo 1 = .ok (.invokevirtual 77, 3) := by decide +kernel
theorem dL_undo_4 : decode cL_undo 4 = .ok (.istore_n 1, 1) := by decide +kernel
theorem dL_undo_5 : decode cL_undo 5 = .ok (.goto 7, 3) := by decide +kernel
theorem dL_undo_8 : decode cL_undo 8 = .ok (.astore_n 2, 1) := by decide +kernel
theorem dL_undo_9 : decode cL_undo 9 = .ok (.ldc 20, 2) := by decide +kernel
theorem dL_undo_11 : decode cL_undo 11 = .ok (.ireturn, 1) := by decide +kernel
theorem dL_undo_12 : decode cL_undo 12 = .ok (.iload_n 1, 1) := by decide +kernel
theorem dL_undo_13 : decode cL_undo 13 = .ok (.ireturn, 1) := by decide +kernel
set_option maxRecDepth 20000 in
theorem ggL_print_L_value : GoodIn wsL_print wsL_value := goodIn_ca (goodIn_r _ [6, 7, 8, 9, 10, 11, 12, 13, 14, 15, 16, 17, 18, 19, 20, 21, 22, 23, 24, 25, 26, 27, 28, 29, 30, 31, 32, 33, 34, 35, 36, 37, 38, 109, 110, 111, 112, 113, 114, 115, 116, 117, 118, 119, 120, 121, 122, 123, 124, 125, 126, 127, 128, 129, 130, 131, 132] (by decide +kernel) (by decide +kernel)) (goodIn_sub (fun _ h => List.mem_cons_of_mem _ (List.mem_append_left _ (List.mem_append_right _ h))) (by decide +kernel))
set_option maxRecDepth 20000 in
theorem gL_print_L_value : GoodIn wsL_print (va_wsS RL 85 yL_value wsL_value) := goodIn_app (goodIn_of _ (by decide +kernel)) ggL_print_L_value
set_option maxRecDepth 20000 in
theorem ggL_print_L_guest : GoodIn wsL_print wsL_guest := goodIn_ca (goodIn_ca (goodIn_r _ [41, 42, 7, 43, 8, 44, 45, 46, 12, 47, 48, 49, 14, 15, 16, 50, 51, 52, 20, 53, 22, 54, 55, 56, 57, 30, 58, 59, 23, 60, 61, 62, 63, 64, 65, 66, 67, 24, 68, 69, 70, 71, 72, 73, 74, 75, 76, 77, 78, 79, 80, 81, 82, 83, 84, 85, 86, 87, 88, 89, 90, 91, 92, 93, 94, 95, 109, 110, 111, 112, 113, 114, 115, 116, 117, 118, 119, 120, 121, 122, 123, 124, 125, 126, 127, 128, 129, 130, 131, 132, 133, 134, 135, 136] (by decide +kernel) (by decide +kernel)) (goodIn_sub (fun _ h => List.mem_cons_of_mem _ (List.mem_append_right _ h)) (by decide +kernel))) (goodIn_sub (fun _ h => List.mem_cons_of_mem _ (List.mem_append_left _ (List.mem_append_right _ h))) (by decide +kernel))
set_option maxRecDepth 20000 in
theorem gL_print_L_guest : GoodIn wsL_print (va_wsS RL 90 yL_guest wsL_guest) := goodIn_app (goodIn_of _ (by decide +kernel)) ggL_print_L_guest
set_option maxRecDepth 20000 in
theorem ggL_print_L_question : GoodIn wsL_print wsL_question := goodIn_ca (goodIn_ca (goodIn_r _ [98, 42, 7, 43, 8, 99, 100, 101, 12, 102, 48, 49, 14, 15, 16, 103, 104, 105, 20, 106, 68, 107, 108, 109, 110, 111, 112, 113, 114, 115, 116, 117, 118, 119, 120, 121, 122, 123, 124, 125, 126, 127, 128, 129, 130, 131, 132] (by decide +kernel) (by decide +kernel)) (goodIn_sub (fun _ h => List.mem_cons_of_mem _ (List.mem_append_right _ h)) (by decide +kernel))) (goodIn_sub (fun _ h => List.mem_cons_of_mem _ (List.mem_append_left _ (List.mem_append_right _ h))) (by decide +kernel))
set_option maxRecDepth 20000 in
theorem gL_print_L_question : GoodIn wsL_print (va_wsS RL 93 yL_question wsL_question) := goodIn_app (goodIn_of _ (by decide +kernel)) ggL_print_L_question
theorem dL_print_0 : decode cL_print 0 = .ok (.ldc2_w 81, 3) := by decide +kernel
theorem dL_print_3 : decode cL_print 3 = .ok (.lstore_n 1, 1) := by decide +kernel
theorem dL_print_4 : decode cL_print 4 = .ok (.iconst 0, 1) := by decide +kernel
theorem dL_print_5 : decode cL_print 5 = .ok (.istore_n 3, 1) := by decide +kernel
theorem dL_print_6 : decode cL_print 6 = .ok (.iload_n 3, 1) := by decide +kernel
theorem dL_print_7 : decode cL_print 7 = .ok (.bipush 10, 2) := by decide +kernel
theorem dL_print_9 : decode cL_print 9 = .ok (.if_icmp .ge 22, 3) := by decide +kernel
theorem dL_print_12 : decode cL_print 12 = .ok (.ldc2_w 83, 3) := by decide +kernel
theorem dL_print_15 : decode cL_print 15 = .ok (.lload_n 1, 1) := by decide +kernel
theorem dL_print_16 : decode cL_print 16 = .ok (.lmul, 1) := by decide +kernel
theorem dL_print_17 : decode cL_print 17 = .ok (.aload_n 0, 1) := by decide +kernel
theorem dL_print_18 : decode cL_print 18 = .ok (.iload_n 3, 1) := by decide +kernel
theorem dL_print_19 : decode cL_print 19 = .ok (.invokestatic 85, 3) := by decide +kernel
theorem dL_print_22 : decode cL_print 22 = .ok (.i2l, 1) := by decide +kernel
theorem dL_print_23 : decode cL_print 23 = .ok (.ladd, 1) := by decide +kernel
theorem dL_print_24 : decode cL_print 24 = .ok (.lstore_n 1, 1) := by decide +kernel
theorem dL_print_25 : decode cL_print 25 = .ok (.iinc 3 1, 3) := by decide +kernel
theorem dL_print_28 : decode cL_print 28 = .ok (.goto (-22), 3) := by decide +kernel
theorem dL_print_31 : decode cL_print 31 = .ok (.iconst 0, 1) := by decide +kernel
theorem dL_print_32 : decode cL_print 32 = .ok (.istore_n 3, 1) := by decide +kernel
theorem dL_print_33 : decode cL_print 33 = .ok (.iload_n 3, 1) := by decide +kernel
theorem dL_print_34 : decode cL_print 34 = .ok (.iconst 4, 1) := by decide +kernel
theorem dL_print_35 : decode cL_print 35 = .ok (.if_icmp .ge 72, 3) := by decide +kernel
theorem dL_print_38 : decode cL_print 38 = .ok (.ldc2_w 83, 3) := by decide +kernel
theorem dL_print_41 : decode cL_print 41 = .ok (.ldc2_w 83, 3) := by decide +kernel
theorem dL_print_44 : decode cL_print 44 = .ok (.ldc2_w 83, 3) := by decide +kernel
theorem dL_print_47 : decode cL_print 47 = .ok (.ldc2_w 83, 3) := by decide +kernel
theorem dL_print_50 : decode cL_print 50 = .ok (.ldc2_w 83, 3) := by decide +kernel
theorem dL_print_53 : decode cL_print 53 = .ok (.lload_n 1, 1) := by decide +kernel
theorem dL_print_54 : decode cL_print 54 = .ok (.lmul, 1) := by decide +kernel
theorem dL_print_55 : decode cL_print 55 = .ok (.aload_n 0, 1) := by decide +kernel
theorem dL_print_56 : decode cL_print 56 = .ok (.iload_n 3, 1) := by decide +kernel
theorem dL_print_57 : decode cL_print 57 = .ok (.iconst 0, 1) := by decide +kernel
theorem dL_print_58 : decode cL_print 58 = .ok (.invokestatic 90, 3) := by decide +kernel
theorem dL_print_61 : decode cL_print 61 = .ok (.i2l, 1) := by decide +kernel
theorem dL_print_62 : decode cL_print 62 = .ok (.ladd, 1) := by decide +kernel
theorem dL_print_63 : decode cL_print 63 = .ok (.lmul, 1) := by decide +kernel
theorem dL_print_64 : decode cL_print 64 = .ok (.aload_n 0, 1) := by decide +kernel
theorem dL_print_65 : decode cL_print 65 = .ok (.iload_n 3, 1) := by decide +kernel
theorem dL_print_66 : decode cL_print 66 = .ok (.iconst 1, 1) := by decide +kernel
theorem dL_print_67 : decode cL_print 67 = .ok (.invokestatic 90, 3) := by decide +kernel
theorem dL_print_70 : decode cL_print 70 = .ok (.i2l, 1) := by decide +kernel
theorem dL_print_71 : decode cL_print 71 = .ok (.ladd, 1) := by decide +kernel
theorem dL_print_72 : decode cL_print 72 = .ok (.lmul, 1) := by decide +kernel
theorem dL_print_73 : decode cL_print 73 = .ok (.aload_n 0, 1) := by decide +kernel
theorem dL_print_74 : decode cL_print 74 = .ok (.iload_n 3, 1) := by decide +kernel
theorem dL_print_75 : decode cL_print 75 = .ok (.iconst 2, 1) := by decide +kernel
theorem dL_print_76 : decode cL_print 76 = .ok (.invokestatic 90, 3) := by decide +kernel
theorem dL_print_79 : decode cL_print 79 = .ok (.i2l, 1) := by decide +kernel
theorem dL_print_80 : decode cL_print 80 = .ok (.ladd, 1) := by decide +kernel
theorem dL_print_81 : decode cL_print 81 = .ok (.lmul, 1) := by decide +kernel
theorem dL_print_82 : decode cL_print 82 = .ok (.aload_n 0, 1) := by decide +kernel
theorem dL_print_83 : decode cL_print 83 = .ok (.iload_n 3, 1) := by decide +kernel
theorem dL_print_84 : decode cL_print 84 = .ok (.iconst 3, 1) := by decide +kernel
theorem dL_print_85 : decode cL_print 85 = .ok (.invokestatic 90, 3) := by decide +kernel
theorem dL_print_88 : decode cL_print 88 = .ok (.i2l, 1) := by decide +kernel
theorem dL_print_89 : decode cL_print 89 = .ok (.ladd, 1) := by decide +kernel
theorem dL_print_90 : decode cL_print 90 = .ok (.lmul, 1) := by decide +kernel
theorem dL_print_91 : decode cL_print 91 = .ok (.aload_n 0, 1) := by decide +kernel
theorem dL_print_92 : decode cL_print 92 = .ok (.iload_n 3, 1) := by decide +kernel
theorem dL_print_93 : decode cL_print 93 = .ok (.bipush 7, 2) := by decide +kernel
theorem dL_print_95 : decode cL_print 95 = .ok (.invokestatic 90, 3) := by decide +kernel
theorem dL_print_98 : decode cL_print 98 = .ok (.i2l, 1) := by decide +kernel
theorem dL_print_99 : decode cL_print 99 = .ok (.ladd, 1) := by decide +kernel
theorem dL_print_100 : decode cL_print 100 = .ok (.lstore_n 1, 1) := by decide +kernel
theorem dL_print_101 : decode cL_print 101 = .ok (.iinc 3 1, 3) := by decide +kernel
theorem dL_print_104 : decode cL_print 104 = .ok (.goto (-71), 3) := by decide +kernel
theorem dL_print_107 : decode cL_print 107 = .ok (.iconst 0, 1) := by decide +kernel
theorem dL_print_108 : decode cL_print 108 = .ok (.istore_n 3, 1) := by decide +kernel
theorem dL_print_109 : decode cL_print 109 = .ok (.iload_n 3, 1) := by decide +kernel
theorem dL_print_110 : decode cL_print 110 = .ok (.bipush 60, 2) := by decide +kernel
theorem dL_print_112 : decode cL_print 112 = .ok (.if_icmp .ge 27, 3) := by decide +kernel
theorem dL_print_115 : decode cL_print 115 = .ok (.ldc2_w 83, 3) := by decide +kernel
theorem dL_print_118 : decode cL_print 118 = .ok (.lload_n 1, 1) := by decide +kernel
theorem dL_print_119 : decode cL_print 119 = .ok (.lmul, 1) := by decide +kernel
theorem dL_print_120 : decode cL_print 120 = .ok (.aload_n 0, 1) := by decide +kernel
theorem dL_print_121 : decode cL_print 121 = .ok (.iload_n 3, 1) := by decide +kernel
theorem dL_print_122 : decode cL_print 122 = .ok (.iconst 3, 1) := by decide +kernel
theorem dL_print_123 : decode cL_print 123 = .ok (.idiv, 1) := by decide +kernel
theorem dL_print_124 : decode cL_print 124 = .ok (.iload_n 3, 1) := by decide +kernel
theorem dL_print_125 : decode cL_print 125 = .ok (.iconst 3, 1) := by decide +kernel
theorem dL_print_126 : decode cL_print 126 = .ok (.irem, 1) := by decide +kernel
theorem dL_print_127 : decode cL_print 127 = .ok (.invokestatic 93, 3) := by decide +kernel
theorem dL_print_130 : decode cL_print 130 = .ok (.i2l, 1) := by decide +kernel
theorem dL_print_131 : decode cL_print 131 = .ok (.ladd, 1) := by decide +kernel
theorem dL_print_132 : decode cL_print 132 = .ok (.lstore_n 1, 1) := by decide +kernel
theorem dL_print_133 : decode cL_print 133 = .ok (.iinc 3 1, 3) := by decide +kernel
theorem dL_print_136 : decode cL_print 136 = .ok (.goto (-27), 3) := by decide +kernel
theorem dL_print_139 : decode cL_print 139 = .ok (.lload_n 1, 1) := by decide +kernel
theorem dL_print_140 : decode cL_print 140 = .ok (.lreturn, 1) := by decide +kernel
theorem dL_ones_0 : decode cL_ones 0 = .ok (.iconst 0, 1) := by decide +kernel
theorem dL_ones_1 : decode cL_ones 1 = .ok (.istore_n 1, 1) := by decide +kernel
theorem dL_ones_2 : decode cL_ones 2 = .ok (.iload_n 0, 1) := by decide +kernel
theorem dL_ones_3 : decode cL_ones 3 = .ok (.istore_n 2, 1) := by decide +kernel
theorem dL_ones_4 : decode cL_ones 4 = .ok (.iload_n 2, 1) := by decide +kernel
theorem dL_ones_5 : decode cL_ones 5 = .ok (.ifCond .eq 15, 3) := by decide +kernel
theorem dL_ones_8 : decode cL_ones 8 = .ok (.iinc 1 1, 3) := by decide +kernel
theorem dL_ones_11 : decode cL_ones 11 = .ok (.iload_n 2, 1) := by decide +kernel
theorem dL_ones_12 : decode cL_ones 12 = .ok (.iload_n 2, 1) := by decide +kernel
theorem dL_ones_13 : decode cL_ones 13 = .ok (.iconst 1, 1) := by decide +kernel
theorem dL_ones_14 : decode cL_ones 14 = .ok (.isub, 1) := by decide +kernel
theorem dL_ones_15 : decode cL_ones 15 = .ok (.iand, 1) := by decide +kernel
theorem dL_ones_16 : decode cL_ones 16 = .ok (.istore_n 2, 1) := by decide +kernel
theorem dL_ones_17 : decode cL_ones 17 = .ok (.goto (-13), 3) := by decide +kernel
theorem dL_ones_20 : decode cL_ones 20 = .ok (.iload_n 1, 1) := by decide +kernel
theorem dL_ones_21 : decode cL_ones 21 = .ok (.ireturn, 1) := by decide +kernel
set_option maxRecDepth 20000 in
theorem ggL_refused_L_print : GoodIn wsL_refused wsL_print := goodIn_ca (goodIn_ca (goodIn_r _ [8, 9, 10, 11, 12, 7, 13, 14, 1, 15, 16, 17, 18, 19, 20, 21, 22, 23, 24, 25, 26, 27, 28, 29, 30, 31, 32, 33, 34, 35, 36, 37, 38, 39, 40, 41, 42, 43, 44, 45, 46, 47, 48, 3, 49, 50, 51, 52, 53, 54, 55, 56, 57, 58, 59, 60, 61, 62, 63, 64, 65, 66, 67, 68, 69, 70, 71, 72, 73, 74, 75, 76, 77, 78, 79, 80, 81, 82, 83, 84, 85, 86, 87, 88, 89, 90, 91, 92, 93, 94, 95, 96, 97, 98, 99, 100, 101, 102, 103, 104, 105, 106, 107, 108, 109, 110, 111, 112, 113, 354, 355, 356, 357, 358, 359, 360, 361, 362, 363, 364, 365, 366, 367, 368, 369, 370, 371, 372, 373, 374, 375, 376, 377, 378, 379, 380, 381] (by decide +kernel) (by decide +kernel)) (goodIn_sub (fun _ h => List.mem_cons_of_mem _ (List.mem_append_left _ (List.mem_append_left _ (List.mem_append_right _ h)))) (by decide +kernel))) (goodIn_sub (fun _ h => List.mem_cons_of_mem _ (List.mem_append_left _ (List.mem_append_right _ h))) (by decide +kernel))
set_option maxRecDepth 20000 in
theorem gL_refused_L_print : GoodIn wsL_refused (va_wsS RL 95 yL_print wsL_print) := goodIn_app (goodIn_of _ (by decide +kernel)) ggL_refused_L_print
set_option maxRecDepth 20000 in
theorem ggL_refused_L_value : GoodIn wsL_refused wsL_value := goodIn_ca (goodIn_r _ [13, 14, 1, 15, 16, 17, 18, 19, 20, 21, 22, 23, 24, 25, 26, 27, 28, 29, 30, 31, 32, 33, 34, 35, 36, 37, 38, 39, 40, 41, 42, 43, 44, 354, 355, 356, 357, 358, 359, 360, 361, 362, 363, 364, 365, 366, 367, 368, 369, 370, 371, 372, 373, 374, 375, 376, 377] (by decide +kernel) (by decide +kernel)) (goodIn_sub (fun _ h => List.mem_cons_of_mem _ (List.mem_append_left _ (List.mem_append_left _ (List.mem_append_right _ h)))) (by decide +kernel))
set_option maxRecDepth 20000 in
theorem gL_refused_L_value : GoodIn wsL_refused (va_wsS RL 85 yL_value wsL_value) := goodIn_app (goodIn_of _ (by decide +kernel)) ggL_refused_L_value
set_option maxRecDepth 20000 in
theorem ggL_refused_L_begin : GoodIn wsL_refused wsL_begin := goodIn_ca (goodIn_ca (goodIn_r _ [116, 14, 117, 1, 4, 118, 119, 120, 18, 121, 20, 21, 122, 123, 124, 22, 125, 126, 127, 128, 129, 130, 131, 132, 133, 134, 135, 136, 137, 138, 139, 26, 140, 35, 28, 29, 37, 32, 33, 34, 36, 141, 100, 31, 63, 30, 73, 112, 113, 64, 142, 143, 144, 145, 146, 147, 148, 149, 150, 151, 152, 153, 154, 77, 155, 156, 157, 79, 80, 88, 158, 159, 160, 161, 162, 163, 164, 165, 166, 167, 168, 169, 170, 171, 172, 173, 81, 82, 83, 174, 39, 40, 41, 42, 43, 44, 65, 66, 67, 68, 175, 176, 177, 178, 179, 180, 181, 182, 183, 184, 185, 186, 187, 188, 189, 190, 191, 192, 193, 194, 195, 196, 197, 38, 198, 354, 355, 356, 357, 358, 359, 360, 361, 362, 363, 364, 365, 366, 367, 368, 369, 370, 371, 372, 373, 374, 375, 376, 377, 378, 379, 380, 381] (by decide +kernel) (by decide +kernel)) (goodIn_sub (fun _ h => List.mem_cons_of_mem _ (List.mem_append_left _ (List.mem_append_left _ (List.mem_append_right _ h)))) (by decide +kernel))) (goodIn_sub (fun _ h => List.mem_cons_of_mem _ (List.mem_append_right _ h)) (by decide +kernel))
set_option maxRecDepth 20000 in
theorem gL_refused_L_begin : GoodIn wsL_refused (va_wsS RL 99 yL_begin wsL_begin) := goodIn_app (goodIn_of _ (by decide +kernel)) ggL_refused_L_begin
set_option maxRecDepth 20000 in
theorem ggL_refused_L_ask : GoodIn wsL_refused wsL_ask := goodIn_ca (goodIn_ca (goodIn_ca (goodIn_r _ [201, 48, 14, 117, 3, 1, 4, 202, 203, 204, 18, 205, 53, 54, 20, 21, 122, 123, 22, 55, 56, 57, 26, 58, 28, 206, 207, 208, 209, 210, 211, 212, 30, 141, 213, 214, 215, 216, 29, 36, 217, 127, 128, 129, 130, 131, 132, 133, 134, 135, 136, 137, 138, 139, 140, 35, 37, 32, 33, 34, 100, 31, 63, 73, 112, 113, 64, 142, 143, 144, 145, 146, 147, 148, 149, 150, 151, 152, 153, 154, 77, 155, 156, 157, 79, 80, 88, 158, 159, 160, 161, 162, 218, 219, 220, 221, 96, 97, 98, 99, 38, 39, 40, 41, 42, 43, 44, 65, 66, 67, 68, 222, 223, 224, 225, 93, 94, 95, 226, 227, 228, 229, 230, 81, 82, 83, 174, 170, 171, 172, 173, 354, 355, 356, 357, 358, 359, 360, 361, 362, 363, 364, 365, 366, 367, 368, 369, 370, 371, 372, 373, 374, 375, 376, 377, 378, 379, 380, 381] (by decide +kernel) (by decide +kernel)) (goodIn_sub (fun _ h => List.mem_cons_of_mem _ (List.mem_append_left _ (List.mem_append_right _ h))) (by decide +kernel))) (goodIn_sub (fun _ h => List.mem_cons_of_mem _ (List.mem_append_left _ (List.mem_append_left _ (List.mem_append_right _ h)))) (by decide +kernel))) (goodIn_sub (fun _ h => List.mem_cons_of_mem _ (List.mem_append_right _ h)) (by decide +kernel))
set_option maxRecDepth 20000 in
theorem gL_refused_L_ask : GoodIn wsL_refused (va_wsS RL 102 yL_ask wsL_ask) := goodIn_app (goodIn_of _ (by decide +kernel)) ggL_refused_L_ask
set_option maxRecDepth 20000 in
theorem ggL_refused_L_prove : GoodIn wsL_refused wsL_prove := goodIn_ca (goodIn_ca (goodIn_r _ [233, 48, 117, 3, 4, 234, 235, 236, 18, 237, 53, 54, 122, 123, 22, 55, 56, 57, 26, 58, 28, 238, 239, 240, 241, 214, 215, 216, 29, 36, 217, 127, 128, 129, 130, 131, 132, 133, 134, 135, 136, 137, 138, 139, 140, 35, 37, 32, 33, 34, 141, 100, 31, 63, 30, 73, 112, 113, 64, 142, 143, 144, 145, 146, 147, 148, 149, 150, 151, 152, 153, 154, 77, 155, 156, 157, 79, 80, 88, 158, 159, 160, 161, 162, 242, 243, 244, 245, 96, 97, 98, 99, 246, 247, 248, 249, 175, 176, 177, 226, 227, 228, 229, 230, 170, 171, 172, 173, 354, 355, 356, 357, 358, 359, 360, 361, 362, 363, 364, 365, 366, 367, 368, 369, 370, 371, 372, 373, 374, 375, 376, 377, 378, 379, 380, 381] (by decide +kernel) (by decide +kernel)) (goodIn_sub (fun _ h => List.mem_cons_of_mem _ (List.mem_append_left _ (List.mem_append_right _ h))) (by decide +kernel))) (goodIn_sub (fun _ h => List.mem_cons_of_mem _ (List.mem_append_right _ h)) (by decide +kernel))
set_option maxRecDepth 20000 in
theorem gL_refused_L_prove : GoodIn wsL_refused (va_wsS RL 105 yL_prove wsL_prove) := goodIn_app (goodIn_of _ (by decide +kernel)) ggL_refused_L_prove
set_option maxRecDepth 20000 in
theorem ggL_refused_L_leave : GoodIn wsL_refused wsL_leave := goodIn_ca (goodIn_ca (goodIn_r _ [252, 48, 117, 3, 4, 253, 254, 255, 18, 256, 53, 54, 122, 123, 22, 55, 56, 57, 26, 58, 28, 241, 214, 215, 216, 29, 36, 217, 127, 128, 129, 130, 131, 132, 133, 134, 135, 136, 137, 138, 139, 140, 35, 37, 32, 33, 34, 141, 100, 31, 63, 30, 73, 112, 113, 64, 142, 143, 144, 145, 146, 147, 148, 149, 150, 151, 152, 153, 154, 77, 155, 156, 157, 79, 80, 88, 158, 159, 160, 161, 162, 257, 258, 259, 260, 38, 39, 40, 41, 42, 43, 44, 354, 355, 356, 357, 358, 359, 360, 361, 362, 363, 364, 365, 366, 367, 368, 369, 370, 371, 372, 373, 374, 375, 376, 377, 378, 379, 380, 381] (by decide +kernel) (by decide +kernel)) (goodIn_sub (fun _ h => List.mem_cons_of_mem _ (List.mem_append_left _ (List.mem_append_right _ h))) (by decide +kernel))) (goodIn_sub (fun _ h => List.mem_cons_of_mem _ (List.mem_append_right _ h)) (by decide +kernel))
set_option maxRecDepth 20000 in
theorem gL_refused_L_leave : GoodIn wsL_refused (va_wsS RL 107 yL_leave wsL_leave) := goodIn_app (goodIn_of _ (by decide +kernel)) ggL_refused_L_leave
set_option maxRecDepth 20000 in
theorem ggL_refused_L_accuse : GoodIn wsL_refused wsL_accuse := goodIn_ca (goodIn_ca (goodIn_r _ [263, 48, 117, 3, 4, 264, 265, 266, 18, 267, 53, 54, 122, 123, 22, 238, 239, 240, 127, 128, 129, 130, 131, 132, 133, 134, 135, 136, 137, 138, 139, 26, 140, 35, 28, 29, 37, 32, 33, 34, 36, 141, 100, 31, 63, 30, 73, 112, 113, 64, 142, 143, 144, 145, 146, 147, 148, 149, 150, 151, 152, 153, 154, 77, 155, 156, 157, 79, 80, 88, 158, 159, 160, 161, 162, 268, 269, 270, 271, 354, 355, 356, 357, 358, 359, 360, 361, 362, 363, 364, 365, 366, 367, 368, 369, 370, 371, 372, 373, 374, 375, 376, 377, 378, 379, 380, 381] (by decide +kernel) (by decide +kernel)) (goodIn_sub (fun _ h => List.mem_cons_of_mem _ (List.mem_append_left _ (List.mem_append_right _ h))) (by decide +kernel))) (goodIn_sub (fun _ h => List.mem_cons_of_mem _ (List.mem_append_right _ h)) (by decide +kernel))
set_option maxRecDepth 20000 in
theorem gL_refused_L_accuse : GoodIn wsL_refused (va_wsS RL 109 yL_accuse wsL_accuse) := goodIn_app (goodIn_of _ (by decide +kernel)) ggL_refused_L_accuse
set_option maxRecDepth 20000 in
theorem ggL_refused_L_guest : GoodIn wsL_refused wsL_guest := goodIn_ca (goodIn_ca (goodIn_r _ [47, 48, 14, 3, 1, 49, 50, 51, 18, 52, 53, 54, 20, 21, 22, 55, 56, 57, 26, 58, 28, 59, 60, 61, 62, 36, 63, 64, 29, 65, 66, 67, 68, 69, 70, 71, 72, 30, 73, 74, 75, 76, 77, 78, 79, 80, 81, 82, 83, 84, 85, 86, 87, 88, 89, 90, 91, 92, 93, 94, 95, 96, 97, 98, 99, 100, 354, 355, 356, 357, 358, 359, 360, 361, 362, 363, 364, 365, 366, 367, 368, 369, 370, 371, 372, 373, 374, 375, 376, 377, 378, 379, 380, 381] (by decide +kernel) (by decide +kernel)) (goodIn_sub (fun _ h => List.mem_cons_of_mem _ (List.mem_append_left _ (List.mem_append_right _ h))) (by decide +kernel))) (goodIn_sub (fun _ h => List.mem_cons_of_mem _ (List.mem_append_left _ (List.mem_append_left _ (List.mem_append_right _ h)))) (by decide +kernel))
set_option maxRecDepth 20000 in
theorem gL_refused_L_guest : GoodIn wsL_refused (va_wsS RL 90 yL_guest wsL_guest) := goodIn_app (goodIn_of _ (by decide +kernel)) ggL_refused_L_guest
set_option maxRecDepth 20000 in
theorem ggL_refused_L_question : GoodIn wsL_refused wsL_question := goodIn_ca (goodIn_ca (goodIn_r _ [103, 48, 14, 3, 1, 104, 105, 106, 18, 107, 53, 54, 20, 21, 22, 108, 109, 110, 26, 111, 73, 112, 113, 354, 355, 356, 357, 358, 359, 360, 361, 362, 363, 364, 365, 366, 367, 368, 369, 370, 371, 372, 373, 374, 375, 376, 377] (by decide +kernel) (by decide +kernel)) (goodIn_sub (fun _ h => List.mem_cons_of_mem _ (List.mem_append_left _ (List.mem_append_right _ h))) (by decide +kernel))) (goodIn_sub (fun _ h => List.mem_cons_of_mem _ (List.mem_append_left _ (List.mem_append_left _ (List.mem_append_right _ h)))) (by decide +kernel))
set_option maxRecDepth 20000 in
theorem gL_refused_L_question : GoodIn wsL_refused (va_wsS RL 93 yL_question wsL_question) := goodIn_app (goodIn_of _ (by decide +kernel)) ggL_refused_L_question
set_option maxRecDepth 20000 in
theorem ggL_refused_L_dealsWith : GoodIn wsL_refused wsL_dealsWith := goodIn_ca (goodIn_r _ [274, 48, 3, 275, 276, 277, 18, 278, 53, 54, 22, 238, 239, 240, 279, 280, 281, 77, 282, 156, 175, 176, 177, 158, 159, 160, 161, 79, 162, 145, 146, 147, 354, 355, 356, 357, 358, 359, 360, 361, 362, 363, 364, 365, 366, 367, 368, 369, 370, 371, 372, 373, 374, 375, 376, 377, 378, 379, 380, 381] (by decide +kernel) (by decide +kernel)) (goodIn_sub (fun _ h => List.mem_cons_of_mem _ (List.mem_append_left _ (List.mem_append_right _ h))) (by decide +kernel))
set_option maxRecDepth 20000 in
theorem gL_refused_L_dealsWith : GoodIn wsL_refused (va_wsS RL 111 yL_dealsWith wsL_dealsWith) := goodIn_app (goodIn_of _ (by decide +kernel)) ggL_refused_L_dealsWith
set_option maxRecDepth 20000 in
theorem ggL_refused_L_dealsHeld : GoodIn wsL_refused wsL_dealsHeld := goodIn_ca (goodIn_r _ [285, 48, 3, 286, 287, 288, 18, 289, 53, 54, 22, 55, 56, 57, 26, 58, 28, 238, 239, 240, 279, 280, 281, 77, 282, 156, 175, 176, 177, 158, 159, 160, 161, 79, 162, 145, 146, 147, 354, 355, 356, 357, 358, 359, 360, 361, 362, 363, 364, 365, 366, 367, 368, 369, 370, 371, 372, 373, 374, 375, 376, 377, 378, 379, 380, 381] (by decide +kernel) (by decide +kernel)) (goodIn_sub (fun _ h => List.mem_cons_of_mem _ (List.mem_append_left _ (List.mem_append_right _ h))) (by decide +kernel))
set_option maxRecDepth 20000 in
theorem gL_refused_L_dealsHeld : GoodIn wsL_refused (va_wsS RL 113 yL_dealsHeld wsL_dealsHeld) := goodIn_app (goodIn_of _ (by decide +kernel)) ggL_refused_L_dealsHeld
set_option maxRecDepth 20000 in
theorem ggL_refused_L_dealsIf : GoodIn wsL_refused wsL_dealsIf := goodIn_ca (goodIn_ca (goodIn_r _ [292, 48, 14, 3, 1, 293, 294, 295, 18, 296, 53, 54, 20, 21, 22, 297, 55, 56, 57, 26, 58, 28, 206, 207, 208, 298, 299, 300, 301, 302, 303, 304, 305, 94, 77, 95, 159, 160, 161, 79, 156, 162, 145, 146, 147, 306, 82, 83, 307, 308, 309, 310, 311, 39, 40, 41, 42, 43, 44, 354, 355, 356, 357, 358, 359, 360, 361, 362, 363, 364, 365, 366, 367, 368, 369, 370, 371, 372, 373, 374, 375, 376, 377, 382, 383, 384, 378, 379, 380, 381] (by decide +kernel) (by decide +kernel)) (goodIn_sub (fun _ h => List.mem_cons_of_mem _ (List.mem_append_left _ (List.mem_append_right _ h))) (by decide +kernel))) (goodIn_sub (fun _ h => List.mem_cons_of_mem _ (List.mem_append_left _ (List.mem_append_left _ (List.mem_append_right _ h)))) (by decide +kernel))
set_option maxRecDepth 20000 in
theorem gL_refused_L_dealsIf : GoodIn wsL_refused (va_wsS RL 115 yL_dealsIf wsL_dealsIf) := goodIn_app (goodIn_of _ (by decide +kernel)) ggL_refused_L_dealsIf
set_option maxRecDepth 20000 in
theorem ggL_refused_L_worst : GoodIn wsL_refused wsL_worst := goodIn_ca (goodIn_ca (goodIn_r _ [314, 48, 14, 3, 1, 315, 316, 317, 18, 318, 53, 54, 20, 21, 22, 297, 55, 56, 57, 26, 58, 28, 206, 207, 208, 298, 299, 300, 301, 302, 303, 304, 305, 94, 77, 95, 159, 160, 161, 79, 156, 162, 145, 146, 147, 306, 82, 83, 319, 320, 321, 322, 323, 324, 325, 326, 311, 39, 40, 41, 42, 43, 44, 354, 355, 356, 357, 358, 359, 360, 361, 362, 363, 364, 365, 366, 367, 368, 369, 370, 371, 372, 373, 374, 375, 376, 377, 382, 383, 384, 378, 379, 380, 381] (by decide +kernel) (by decide +kernel)) (goodIn_sub (fun _ h => List.mem_cons_of_mem _ (List.mem_append_left _ (List.mem_append_right _ h))) (by decide +kernel))) (goodIn_sub (fun _ h => List.mem_cons_of_mem _ (List.mem_append_left _ (List.mem_append_left _ (List.mem_append_right _ h)))) (by decide +kernel))
set_option maxRecDepth 20000 in
theorem gL_refused_L_worst : GoodIn wsL_refused (va_wsS RL 118 yL_worst wsL_worst) := goodIn_app (goodIn_of _ (by decide +kernel)) ggL_refused_L_worst
set_option maxRecDepth 20000 in
theorem ggL_refused_L_bestCards : GoodIn wsL_refused wsL_bestCards := goodIn_ca (goodIn_r _ [329, 48, 3, 330, 331, 332, 18, 333, 53, 54, 22, 297, 55, 56, 57, 26, 58, 28, 298, 299, 300, 301, 302, 303, 304, 305, 94, 77, 95, 159, 160, 161, 79, 156, 162, 145, 146, 147, 306, 82, 83, 334, 335, 336, 337, 338, 320, 321, 322, 323, 324, 325, 326, 311, 39, 40, 41, 42, 43, 44, 354, 355, 356, 357, 358, 359, 360, 361, 362, 363, 364, 365, 366, 367, 368, 369, 370, 371, 372, 373, 374, 375, 376, 377, 382, 383, 384, 378, 379, 380, 381] (by decide +kernel) (by decide +kernel)) (goodIn_sub (fun _ h => List.mem_cons_of_mem _ (List.mem_append_left _ (List.mem_append_right _ h))) (by decide +kernel))
set_option maxRecDepth 20000 in
theorem gL_refused_L_bestCards : GoodIn wsL_refused (va_wsS RL 120 yL_bestCards wsL_bestCards) := goodIn_app (goodIn_of _ (by decide +kernel)) ggL_refused_L_bestCards
set_option maxRecDepth 20000 in
theorem ggL_refused_L_append : GoodIn wsL_refused wsL_append := goodIn_ca (goodIn_ca (goodIn_r _ [341, 14, 117, 1, 4, 342, 343, 344, 18, 345, 20, 21, 122, 123, 346, 347, 348, 349, 350, 351, 352, 353, 354, 355, 356, 357, 358, 359, 360, 385, 386, 387, 388, 389, 390, 391] (by decide +kernel) (by decide +kernel)) (goodIn_sub (fun _ h => List.mem_cons_of_mem _ (List.mem_append_left _ (List.mem_append_left _ (List.mem_append_right _ h)))) (by decide +kernel))) (goodIn_sub (fun _ h => List.mem_cons_of_mem _ (List.mem_append_right _ h)) (by decide +kernel))
set_option maxRecDepth 20000 in
theorem gL_refused_L_append : GoodIn wsL_refused (va_wsS RL 122 yL_append wsL_append) := goodIn_app (goodIn_of _ (by decide +kernel)) ggL_refused_L_append
theorem dL_refused_0 : decode cL_refused 0 = .ok (.aload_n 0, 1) := by decide +kernel
theorem dL_refused_1 : decode cL_refused 1 = .ok (.invokestatic 95, 3) := by decide +kernel
theorem dL_refused_4 : decode cL_refused 4 = .ok (.lstore_n 1, 1) := by decide +kernel
theorem dL_refused_5 : decode cL_refused 5 = .ok (.aload_n 0, 1) := by decide +kernel
theorem dL_refused_6 : decode cL_refused 6 = .ok (.iconst 0, 1) := by decide +kernel
theorem dL_refused_7 : decode cL_refused 7 = .ok (.invokestatic 85, 3) := by decide +kernel
theorem dL_refused_10 : decode cL_refused 10 = .ok (.istore_n 3, 1) := by decide +kernel
theorem dL_refused_11 : decode cL_refused 11 = .ok (.aload_n 0, 1) := by decide +kernel
theorem dL_refused_12 : decode cL_refused 12 = .ok (.iconst 1, 1) := by decide +kernel
theorem dL_refused_13 : decode cL_refused 13 = .ok (.invokestatic 85, 3) := by decide +kernel
theorem dL_refused_16 : decode cL_refused 16 = .ok (.iconst 1, 1) := by decide +kernel
theorem dL_refused_17 : decode cL_refused 17 = .ok (.if_icmp .ne 7, 3) := by decide +kernel
theorem dL_refused_20 : decode cL_refused 20 = .ok (.iconst 1, 1) := by decide +kernel
theorem dL_refused_21 : decode cL_refused 21 = .ok (.goto 4, 3) := by decide +kernel
theorem dL_refused_24 : decode cL_refused 24 = .ok (.iconst 0, 1) := by decide +kernel
theorem dL_refused_25 : decode cL_refused 25 = .ok (.istore 4, 2) := by decide +kernel
theorem dL_refused_27 : decode cL_refused 27 = .ok (.aload_n 0, 1) := by decide +kernel
theorem dL_refused_28 : decode cL_refused 28 = .ok (.iconst 2, 1) := by decide +kernel
theorem dL_refused_29 : decode cL_refused 29 = .ok (.iconst 0, 1) := by decide +kernel
theorem dL_refused_30 : decode cL_refused 30 = .ok (.invokestatic 99, 3) := by decide +kernel
theorem dL_refused_33 : decode cL_refused 33 = .ok (.ldc 17, 2) := by decide +kernel
theorem dL_refused_35 : decode cL_refused 35 = .ok (.if_icmp .ne 178, 3) := by decide +kernel
theorem dL_refused_38 : decode cL_refused 38 = .ok (.aload_n 0, 1) := by decide +kernel
theorem dL_refused_39 : decode cL_refused 39 = .ok (.iconst 3, 1) := by decide +kernel
theorem dL_refused_40 : decode cL_refused 40 = .ok (.ldc 101, 2) := by decide +kernel
theorem dL_refused_42 : decode cL_refused 42 = .ok (.invokestatic 99, 3) := by decide +kernel
theorem dL_refused_45 : decode cL_refused 45 = .ok (.ldc 17, 2) := by decide +kernel
theorem dL_refused_47 : decode cL_refused 47 = .ok (.if_icmp .ne 166, 3) := by decide +kernel
theorem dL_refused_50 : decode cL_refused 50 = .ok (.aload_n 0, 1) := by decide +kernel
theorem dL_refused_51 : decode cL_refused 51 = .ok (.iconst 4, 1) := by decide +kernel
theorem dL_refused_52 : decode cL_refused 52 = .ok (.bipush (-2), 2) := by decide +kernel
theorem dL_refused_54 : decode cL_refused 54 = .ok (.invokestatic 99, 3) := by decide +kernel
theorem dL_refused_57 : decode cL_refused 57 = .ok (.ldc 17, 2) := by decide +kernel
theorem dL_refused_59 : decode cL_refused 59 = .ok (.if_icmp .ne 154, 3) := by decide +kernel
theorem dL_refused_62 : decode cL_refused 62 = .ok (.aload_n 0, 1) := by decide +kernel
theorem dL_refused_63 : decode cL_refused 63 = .ok (.iload_n 3, 1) := by decide +kernel
theorem dL_refused_64 : decode cL_refused 64 = .ok (.iconst 1, 1) := by decide +kernel
theorem dL_refused_65 : decode cL_refused 65 = .ok (.iconst 0, 1) := by decide +kernel
theorem dL_refused_66 : decode cL_refused 66 = .ok (.invokestatic 102, 3) := by decide +kernel
theorem dL_refused_69 : decode cL_refused 69 = .ok (.ldc 27, 2) := by decide +kernel
theorem dL_refused_71 : decode cL_refused 71 = .ok (.if_icmp .ne 142, 3) := by decide +kernel
theorem dL_refused_74 : decode cL_refused 74 = .ok (.aload_n 0, 1) := by decide +kernel
theorem dL_refused_75 : decode cL_refused 75 = .ok (.iload_n 3, 1) := by decide +kernel
theorem dL_refused_76 : decode cL_refused 76 = .ok (.iconst 0, 1) := by decide +kernel
theorem dL_refused_77 : decode cL_refused 77 = .ok (.invokestatic 105, 3) := by decide +kernel
theorem dL_refused_80 : decode cL_refused 80 = .ok (.ldc 27, 2) := by decide +kernel
theorem dL_refused_82 : decode cL_refused 82 = .ok (.if_icmp .ne 131, 3) := by decide +kernel
theorem dL_refused_85 : decode cL_refused 85 = .ok (.aload_n 0, 1) := by decide +kernel
theorem dL_refused_86 : decode cL_refused 86 = .ok (.iconst (-1), 1) := by decide +kernel
theorem dL_refused_87 : decode cL_refused 87 = .ok (.invokestatic 107, 3) := by decide +kernel
theorem dL_refused_90 : decode cL_refused 90 = .ok (.ldc 27, 2) := by decide +kernel
theorem dL_refused_92 : decode cL_refused 92 = .ok (.if_icmp .ne 121, 3) := by decide +kernel
theorem dL_refused_95 : decode cL_refused 95 = .ok (.aload_n 0, 1) := by decide +kernel
theorem dL_refused_96 : decode cL_refused 96 = .ok (.bipush 8, 2) := by decide +kernel
theorem dL_refused_98 : decode cL_refused 98 = .ok (.invokestatic 109, 3) := by decide +kernel
theorem dL_refused_101 : decode cL_refused 101 = .ok (.ldc 27, 2) := by decide +kernel
theorem dL_refused_103 : decode cL_refused 103 = .ok (.if_icmp .ne 110, 3) := by decide +kernel
theorem dL_refused_106 : decode cL_refused 106 = .ok (.aload_n 0, 1) := by decide +kernel
theorem dL_refused_107 : decode cL_refused 107 = .ok (.iload_n 3, 1) := by decide +kernel
theorem dL_refused_108 : decode cL_refused 108 = .ok (.iconst 0, 1) := by decide +kernel
theorem dL_refused_109 : decode cL_refused 109 = .ok (.invokestatic 90, 3) := by decide +kernel
theorem dL_refused_112 : decode cL_refused 112 = .ok (.ldc 27, 2) := by decide +kernel
theorem dL_refused_114 : decode cL_refused 114 = .ok (.if_icmp .ne 99, 3) := by decide +kernel
theorem dL_refused_117 : decode cL_refused 117 = .ok (.aload_n 0, 1) := by decide +kernel
theorem dL_refused_118 : decode cL_refused 118 = .ok (.bipush 10, 2) := by decide +kernel
theorem dL_refused_120 : decode cL_refused 120 = .ok (.invokestatic 85, 3) := by decide +kernel
theorem dL_refused_123 : decode cL_refused 123 = .ok (.ldc 17, 2) := by decide +kernel
theorem dL_refused_125 : decode cL_refused 125 = .ok (.if_icmp .ne 88, 3) := by decide +kernel
theorem dL_refused_128 : decode cL_refused 128 = .ok (.aload_n 0, 1) := by decide +kernel
theorem dL_refused_129 : decode cL_refused 129 = .ok (.aload_n 0, 1) := by decide +kernel
theorem dL_refused_130 : decode cL_refused 130 = .ok (.iconst 2, 1) := by decide +kernel
theorem dL_refused_131 : decode cL_refused 131 = .ok (.invokestatic 85, 3) := by decide +kernel
theorem dL_refused_134 : decode cL_refused 134 = .ok (.iconst 0, 1) := by decide +kernel
theorem dL_refused_135 : decode cL_refused 135 = .ok (.invokestatic 93, 3) := by decide +kernel
theorem dL_refused_138 : decode cL_refused 138 = .ok (.ldc 27, 2) := by decide +kernel
theorem dL_refused_140 : decode cL_refused 140 = .ok (.if_icmp .ne 73, 3) := by decide +kernel
theorem dL_refused_143 : decode cL_refused 143 = .ok (.aload_n 0, 1) := by decide +kernel
theorem dL_refused_144 : decode cL_refused 144 = .ok (.iconst (-1), 1) := by decide +kernel
theorem dL_refused_145 : decode cL_refused 145 = .ok (.invokestatic 111, 3) := by decide +kernel
theorem dL_refused_148 : decode cL_refused 148 = .ok (.ldc 27, 2) := by decide +kernel
theorem dL_refused_150 : decode cL_refused 150 = .ok (.if_icmp .ne 63, 3) := by decide +kernel
theorem dL_refused_153 : decode cL_refused 153 = .ok (.aload_n 0, 1) := by decide +kernel
theorem dL_refused_154 : decode cL_refused 154 = .ok (.iload_n 3, 1) := by decide +kernel
theorem dL_refused_155 : decode cL_refused 155 = .ok (.iconst 0, 1) := by decide +kernel
theorem dL_refused_156 : decode cL_refused 156 = .ok (.invokestatic 113, 3) := by decide +kernel
theorem dL_refused_159 : decode cL_refused 159 = .ok (.ldc 27, 2) := by decide +kernel
theorem dL_refused_161 : decode cL_refused 161 = .ok (.if_icmp .ne 52, 3) := by decide +kernel
theorem dL_refused_164 : decode cL_refused 164 = .ok (.aload_n 0, 1) := by decide +kernel
theorem dL_refused_165 : decode cL_refused 165 = .ok (.iload_n 3, 1) := by decide +kernel
theorem dL_refused_166 : decode cL_refused 166 = .ok (.iconst 1, 1) := by decide +kernel
theorem dL_refused_167 : decode cL_refused 167 = .ok (.iconst 0, 1) := by decide +kernel
theorem dL_refused_168 : decode cL_refused 168 = .ok (.invokestatic 115, 3) := by decide +kernel
theorem dL_refused_171 : decode cL_refused 171 = .ok (.ldc 27, 2) := by decide +kernel
theorem dL_refused_173 : decode cL_refused 173 = .ok (.if_icmp .ne 40, 3) := by decide +kernel
theorem dL_refused_176 : decode cL_refused 176 = .ok (.aload_n 0, 1) := by decide +kernel
theorem dL_refused_177 : decode cL_refused 177 = .ok (.iconst (-1), 1) := by decide +kernel
theorem dL_refused_178 : decode cL_refused 178 = .ok (.iconst 1, 1) := by decide +kernel
theorem dL_refused_179 : decode cL_refused 179 = .ok (.invokestatic 118, 3) := by decide +kernel
theorem dL_refused_182 : decode cL_refused 182 = .ok (.ldc 27, 2) := by decide +kernel
theorem dL_refused_184 : decode cL_refused 184 = .ok (.if_icmp .ne 29, 3) := by decide +kernel
theorem dL_refused_187 : decode cL_refused 187 = .ok (.aload_n 0, 1) := by decide +kernel
theorem dL_refused_188 : decode cL_refused 188 = .ok (.iload_n 3, 1) := by decide +kernel
theorem dL_refused_189 : decode cL_refused 189 = .ok (.invokestatic 120, 3) := by decide +kernel
theorem dL_refused_192 : decode cL_refused 192 = .ok (.ldc 27, 2) := by decide +kernel
theorem dL_refused_194 : decode cL_refused 194 = .ok (.if_icmp .ne 19, 3) := by decide +kernel
theorem dL_refused_197 : decode cL_refused 197 = .ok (.aload_n 0, 1) := by decide +kernel
theorem dL_refused_198 : decode cL_refused 198 = .ok (.sipush 128, 3) := by decide +kernel
theorem dL_refused_201 : decode cL_refused 201 = .ok (.invokestatic 122, 3) := by decide +kernel
theorem dL_refused_204 : decode cL_refused 204 = .ok (.ldc 17, 2) := by decide +kernel
theorem dL_refused_206 : decode cL_refused 206 = .ok (.if_icmp .ne 7, 3) := by decide +kernel
theorem dL_refused_209 : decode cL_refused 209 = .ok (.iconst 1, 1) := by decide +kernel
theorem dL_refused_210 : decode cL_refused 210 = .ok (.goto 4, 3) := by decide +kernel
theorem dL_refused_213 : decode cL_refused 213 = .ok (.iconst 0, 1) := by decide +kernel
theorem dL_refused_214 : decode cL_refused 214 = .ok (.istore 5, 2) := by decide +kernel
theorem dL_refused_216 : decode cL_refused 216 = .ok (.iconst 0, 1) := by decide +kernel
theorem dL_refused_217 : decode cL_refused 217 = .ok (.istore 6, 2) := by decide +kernel
theorem dL_refused_219 : decode cL_refused 219 = .ok (.iload 6, 2) := by decide +kernel
theorem dL_refused_221 : decode cL_refused 221 = .ok (.iload_n 3, 1) := by decide +kernel
theorem dL_refused_222 : decode cL_refused 222 = .ok (.if_icmp .ge 126, 3) := by decide +kernel
theorem dL_refused_225 : decode cL_refused 225 = .ok (.iload 5, 2) := by decide +kernel
theorem dL_refused_227 : decode cL_refused 227 = .ok (.ifCond .eq 121, 3) := by decide +kernel
theorem dL_refused_230 : decode cL_refused 230 = .ok (.iload 4, 2) := by decide +kernel
theorem dL_refused_232 : decode cL_refused 232 = .ok (.ifCond .eq 18, 3) := by decide +kernel
theorem dL_refused_235 : decode cL_refused 235 = .ok (.aload_n 0, 1) := by decide +kernel
theorem dL_refused_236 : decode cL_refused 236 = .ok (.iload 6, 2) := by decide +kernel
theorem dL_refused_238 : decode cL_refused 238 = .ok (.iconst 1, 1) := by decide +kernel
theorem dL_refused_239 : decode cL_refused 239 = .ok (.invokestatic 90, 3) := by decide +kernel
theorem dL_refused_242 : decode cL_refused 242 = .ok (.iconst 1, 1) := by decide +kernel
theorem dL_refused_243 : decode cL_refused 243 = .ok (.if_icmp .ne 7, 3) := by decide +kernel
theorem dL_refused_246 : decode cL_refused 246 = .ok (.iconst 1, 1) := by decide +kernel
theorem dL_refused_247 : decode cL_refused 247 = .ok (.goto 4, 3) := by decide +kernel
theorem dL_refused_250 : decode cL_refused 250 = .ok (.iconst 0, 1) := by decide +kernel
theorem dL_refused_251 : decode cL_refused 251 = .ok (.istore 7, 2) := by decide +kernel
theorem dL_refused_253 : decode cL_refused 253 = .ok (.aload_n 0, 1) := by decide +kernel
theorem dL_refused_254 : decode cL_refused 254 = .ok (.iload 6, 2) := by decide +kernel
theorem dL_refused_256 : decode cL_refused 256 = .ok (.iconst 0, 1) := by decide +kernel
theorem dL_refused_257 : decode cL_refused 257 = .ok (.iconst 0, 1) := by decide +kernel
theorem dL_refused_258 : decode cL_refused 258 = .ok (.invokestatic 102, 3) := by decide +kernel
theorem dL_refused_261 : decode cL_refused 261 = .ok (.ldc 17, 2) := by decide +kernel
theorem dL_refused_263 : decode cL_refused 263 = .ok (.if_icmp .ne 76, 3) := by decide +kernel
theorem dL_refused_266 : decode cL_refused 266 = .ok (.aload_n 0, 1) := by decide +kernel
theorem dL_refused_267 : decode cL_refused 267 = .ok (.iload 6, 2) := by decide +kernel
theorem dL_refused_269 : decode cL_refused 269 = .ok (.sipush 256, 3) := by decide +kernel
theorem dL_refused_272 : decode cL_refused 272 = .ok (.iconst 1, 1) := by decide +kernel
theorem dL_refused_273 : decode cL_refused 273 = .ok (.invokestatic 102, 3) := by decide +kernel
theorem dL_refused_276 : decode cL_refused 276 = .ok (.ldc 17, 2) := by decide +kernel
theorem dL_refused_278 : decode cL_refused 278 = .ok (.if_icmp .ne 61, 3) := by decide +kernel
theorem dL_refused_281 : decode cL_refused 281 = .ok (.aload_n 0, 1) := by decide +kernel
theorem dL_refused_282 : decode cL_refused 282 = .ok (.iload 6, 2) := by decide +kernel
theorem dL_refused_284 : decode cL_refused 284 = .ok (.bipush 8, 2) := by decide +kernel
theorem dL_refused_286 : decode cL_refused 286 = .ok (.invokestatic 105, 3) := by decide +kernel
theorem dL_refused_289 : decode cL_refused 289 = .ok (.ldc 27, 2) := by decide +kernel
theorem dL_refused_291 : decode cL_refused 291 = .ok (.if_icmp .ne 48, 3) := by decide +kernel
theorem dL_refused_294 : decode cL_refused 294 = .ok (.iload 7, 2) := by decide +kernel
theorem dL_refused_296 : decode cL_refused 296 = .ok (.ifCond .ne 39, 3) := by decide +kernel
theorem dL_refused_299 : decode cL_refused 299 = .ok (.aload_n 0, 1) := by decide +kernel
theorem dL_refused_300 : decode cL_refused 300 = .ok (.iload 6, 2) := by decide +kernel
theorem dL_refused_302 : decode cL_refused 302 = .ok (.iconst 1, 1) := by decide +kernel
theorem dL_refused_303 : decode cL_refused 303 = .ok (.iconst 0, 1) := by decide +kernel
theorem dL_refused_304 : decode cL_refused 304 = .ok (.invokestatic 102, 3) := by decide +kernel
theorem dL_refused_307 : decode cL_refused 307 = .ok (.ldc 20, 2) := by decide +kernel
theorem dL_refused_309 : decode cL_refused 309 = .ok (.if_icmp .ne 30, 3) := by decide +kernel
theorem dL_refused_312 : decode cL_refused 312 = .ok (.aload_n 0, 1) := by decide +kernel
theorem dL_refused_313 : decode cL_refused 313 = .ok (.iload 6, 2) := by decide +kernel
theorem dL_refused_315 : decode cL_refused 315 = .ok (.iconst 0, 1) := by decide +kernel
theorem dL_refused_316 : decode cL_refused 316 = .ok (.invokestatic 105, 3) := by decide +kernel
theorem dL_refused_319 : decode cL_refused 319 = .ok (.ldc 20, 2) := by decide +kernel
theorem dL_refused_321 : decode cL_refused 321 = .ok (.if_icmp .ne 18, 3) := by decide +kernel
theorem dL_refused_324 : decode cL_refused 324 = .ok (.aload_n 0, 1) := by decide +kernel
theorem dL_refused_325 : decode cL_refused 325 = .ok (.iload 6, 2) := by decide +kernel
theorem dL_refused_327 : decode cL_refused 327 = .ok (.invokestatic 107, 3) := by decide +kernel
theorem dL_refused_330 : decode cL_refused 330 = .ok (.ldc 20, 2) := by decide +kernel
theorem dL_refused_332 : decode cL_refused 332 = .ok (.if_icmp .ne 7, 3) := by decide +kernel
theorem dL_refused_335 : decode cL_refused 335 = .ok (.iconst 1, 1) := by decide +kernel
theorem dL_refused_336 : decode cL_refused 336 = .ok (.goto 4, 3) := by decide +kernel
theorem dL_refused_339 : decode cL_refused 339 = .ok (.iconst 0, 1) := by decide +kernel
theorem dL_refused_340 : decode cL_refused 340 = .ok (.istore 5, 2) := by decide +kernel
theorem dL_refused_342 : decode cL_refused 342 = .ok (.iinc 6 1, 3) := by decide +kernel
theorem dL_refused_345 : decode cL_refused 345 = .ok (.goto (-126), 3) := by decide +kernel
theorem dL_refused_348 : decode cL_refused 348 = .ok (.iload 5, 2) := by decide +kernel
theorem dL_refused_350 : decode cL_refused 350 = .ok (.ifCond .eq 45, 3) := by decide +kernel
theorem dL_refused_353 : decode cL_refused 353 = .ok (.iload 4, 2) := by decide +kernel
theorem dL_refused_355 : decode cL_refused 355 = .ok (.ifCond .eq 17, 3) := by decide +kernel
theorem dL_refused_358 : decode cL_refused 358 = .ok (.aload_n 0, 1) := by decide +kernel
theorem dL_refused_359 : decode cL_refused 359 = .ok (.iconst 3, 1) := by decide +kernel
theorem dL_refused_360 : decode cL_refused 360 = .ok (.iconst 0, 1) := by decide +kernel
theorem dL_refused_361 : decode cL_refused 361 = .ok (.invokestatic 99, 3) := by decide +kernel
theorem dL_refused_364 : decode cL_refused 364 = .ok (.ldc 20, 2) := by decide +kernel
theorem dL_refused_366 : decode cL_refused 366 = .ok (.if_icmp .ne 29, 3) := by decide +kernel
theorem dL_refused_369 : decode cL_refused 369 = .ok (.goto 13, 3) := by decide +kernel
theorem dL_refused_372 : decode cL_refused 372 = .ok (.aload_n 0, 1) := by decide +kernel
theorem dL_refused_373 : decode cL_refused 373 = .ok (.iconst 0, 1) := by decide +kernel
theorem dL_refused_374 : decode cL_refused 374 = .ok (.invokestatic 109, 3) := by decide +kernel
theorem dL_refused_377 : decode cL_refused 377 = .ok (.ldc 20, 2) := by decide +kernel
theorem dL_refused_379 : decode cL_refused 379 = .ok (.if_icmp .ne 16, 3) := by decide +kernel
theorem dL_refused_382 : decode cL_refused 382 = .ok (.aload_n 0, 1) := by decide +kernel
theorem dL_refused_383 : decode cL_refused 383 = .ok (.invokestatic 95, 3) := by decide +kernel
theorem dL_refused_386 : decode cL_refused 386 = .ok (.lload_n 1, 1) := by decide +kernel
theorem dL_refused_387 : decode cL_refused 387 = .ok (.lcmp, 1) := by decide +kernel
theorem dL_refused_388 : decode cL_refused 388 = .ok (.ifCond .ne 7, 3) := by decide +kernel
theorem dL_refused_391 : decode cL_refused 391 = .ok (.iconst 1, 1) := by decide +kernel
theorem dL_refused_392 : decode cL_refused 392 = .ok (.goto 4, 3) := by decide +kernel
theorem dL_refused_395 : decode cL_refused 395 = .ok (.iconst 0, 1) := by decide +kernel
theorem dL_refused_396 : decode cL_refused 396 = .ok (.ireturn, 1) := by decide +kernel
set_option maxRecDepth 20000 in
theorem ggL_areDeals_L_value : GoodIn wsL_areDeals wsL_value := goodIn_ca (goodIn_r _ [4, 5, 6, 7, 8, 9, 10, 11, 12, 13, 14, 15, 16, 17, 18, 19, 20, 21, 22, 23, 24, 25, 26, 27, 28, 29, 30, 31, 32, 33, 34, 35, 36, 151, 152, 153, 154, 155, 156, 157, 158, 159, 160, 161, 162, 163, 164, 165, 166, 167, 168, 169, 170, 171, 172, 173, 174] (by decide +kernel) (by decide +kernel)) (goodIn_sub (fun _ h => List.mem_cons_of_mem _ (List.mem_append_left _ (List.mem_append_right _ h))) (by decide +kernel))
set_option maxRecDepth 20000 in
theorem gL_areDeals_L_value : GoodIn wsL_areDeals (va_wsS RL 85 yL_value wsL_value) := goodIn_app (goodIn_of _ (by decide +kernel)) ggL_areDeals_L_value
set_option maxRecDepth 20000 in
theorem ggL_areDeals_X4_deals : GoodIn wsL_areDeals wsX4_deals := goodIn_r _ [40, 14, 151, 152, 153, 154, 155, 156, 157, 158, 159, 160, 161, 162, 163, 164, 165, 166, 167, 168, 169, 170, 171, 172, 173, 174, 175, 176, 177, 178] (by decide +kernel) (by decide +kernel)
set_option maxRecDepth 20000 in
theorem gL_areDeals_X4_deals : GoodIn wsL_areDeals (wsV RL 124 RX4 yX4_deals wsX4_deals) := goodIn_app (goodIn_of _ (by decide +kernel)) ggL_areDeals_X4_deals
set_option maxRecDepth 20000 in
theorem ggL_areDeals_L_dealsWith : GoodIn wsL_areDeals wsL_dealsWith := goodIn_ca (goodIn_r _ [43, 44, 45, 46, 47, 48, 10, 49, 50, 51, 14, 52, 53, 54, 55, 56, 57, 58, 59, 60, 61, 62, 63, 64, 65, 66, 67, 68, 69, 70, 71, 72, 151, 152, 153, 154, 155, 156, 157, 158, 159, 160, 161, 162, 163, 164, 165, 166, 167, 168, 169, 170, 171, 172, 173, 174, 175, 176, 177, 178] (by decide +kernel) (by decide +kernel)) (goodIn_sub (fun _ h => List.mem_cons_of_mem _ (List.mem_append_right _ h)) (by decide +kernel))
set_option maxRecDepth 20000 in
theorem gL_areDeals_L_dealsWith : GoodIn wsL_areDeals (va_wsS RL 111 yL_dealsWith wsL_dealsWith) := goodIn_app (goodIn_of _ (by decide +kernel)) ggL_areDeals_L_dealsWith
set_option maxRecDepth 20000 in
theorem ggL_areDeals_L_dealsHeld : GoodIn wsL_areDeals wsL_dealsHeld := goodIn_ca (goodIn_r _ [75, 44, 45, 76, 77, 78, 10, 79, 50, 51, 14, 80, 81, 82, 18, 83, 20, 52, 53, 54, 55, 56, 57, 58, 59, 60, 61, 62, 63, 64, 65, 66, 67, 68, 69, 70, 71, 72, 151, 152, 153, 154, 155, 156, 157, 158, 159, 160, 161, 162, 163, 164, 165, 166, 167, 168, 169, 170, 171, 172, 173, 174, 175, 176, 177, 178] (by decide +kernel) (by decide +kernel)) (goodIn_sub (fun _ h => List.mem_cons_of_mem _ (List.mem_append_right _ h)) (by decide +kernel))
set_option maxRecDepth 20000 in
theorem gL_areDeals_L_dealsHeld : GoodIn wsL_areDeals (va_wsS RL 113 yL_dealsHeld wsL_dealsHeld) := goodIn_app (goodIn_of _ (by decide +kernel)) ggL_areDeals_L_dealsHeld
set_option maxRecDepth 20000 in
theorem ggL_areDeals_L_chance : GoodIn wsL_areDeals wsL_chance := goodIn_ca (goodIn_r _ [86, 44, 87, 88, 89, 90, 10, 91, 50, 51, 14, 52, 53, 54, 55, 56, 57, 58, 59, 60, 61, 62, 63, 64, 65, 66, 67, 68, 69, 70, 71, 72, 92, 93, 94, 151, 152, 153, 154, 155, 156, 157, 158, 159, 160, 161, 162, 163, 164, 165, 166, 167, 168, 169, 170, 171, 172, 173, 174, 175, 176, 177, 178] (by decide +kernel) (by decide +kernel)) (goodIn_sub (fun _ h => List.mem_cons_of_mem _ (List.mem_append_right _ h)) (by decide +kernel))
set_option maxRecDepth 20000 in
theorem gL_areDeals_L_chance : GoodIn wsL_areDeals (va_wsS RL 127 yL_chance wsL_chance) := goodIn_app (goodIn_of _ (by decide +kernel)) ggL_areDeals_L_chance
set_option maxRecDepth 20000 in
theorem ggL_areDeals_X4_culprits : GoodIn wsL_areDeals wsX4_culprits := goodIn_r _ [98, 14, 99, 100, 101, 58, 102, 103, 104, 105, 106, 151, 152, 153, 154, 155, 156, 157, 158, 159, 160, 161, 162, 163, 164, 165, 166, 167, 168, 169, 170, 171, 172, 173, 174, 175, 176, 177, 178] (by decide +kernel) (by decide +kernel)
set_option maxRecDepth 20000 in
theorem gL_areDeals_X4_culprits : GoodIn wsL_areDeals (wsV RL 130 RX4 yX4_culprits wsX4_culprits) := goodIn_app (goodIn_of _ (by decide +kernel)) ggL_areDeals_X4_culprits
set_option maxRecDepth 20000 in
theorem ggL_areDeals_X4_likeliest : GoodIn wsL_areDeals wsX4_likeliest := goodIn_r _ [110, 14, 55, 56, 57, 58, 59, 60, 61, 62, 63, 64, 65, 66, 67, 68, 69, 70, 71, 72, 151, 152, 153, 154, 155, 156, 157, 158, 159, 160, 161, 162, 163, 164, 165, 166, 167, 168, 169, 170, 171, 172, 173, 174, 175, 176, 177, 178] (by decide +kernel) (by decide +kernel)
set_option maxRecDepth 20000 in
theorem gL_areDeals_X4_likeliest : GoodIn wsL_areDeals (wsV RL 133 RX4 yX4_likeliest wsX4_likeliest) := goodIn_app (goodIn_of _ (by decide +kernel)) ggL_areDeals_X4_likeliest
set_option maxRecDepth 20000 in
theorem ggL_areDeals_L_guest : GoodIn wsL_areDeals wsL_guest := goodIn_ca (goodIn_ca (goodIn_r _ [113, 44, 5, 45, 6, 114, 115, 116, 10, 117, 50, 51, 12, 13, 14, 80, 81, 82, 18, 83, 20, 118, 119, 120, 121, 28, 122, 123, 21, 124, 125, 126, 127, 128, 129, 130, 131, 22, 132, 133, 134, 135, 58, 136, 68, 137, 104, 105, 106, 138, 100, 101, 102, 103, 139, 140, 141, 142, 143, 144, 145, 146, 147, 148, 149, 150, 151, 152, 153, 154, 155, 156, 157, 158, 159, 160, 161, 162, 163, 164, 165, 166, 167, 168, 169, 170, 171, 172, 173, 174, 175, 176, 177, 178] (by decide +kernel) (by decide +kernel)) (goodIn_sub (fun _ h => List.mem_cons_of_mem _ (List.mem_append_right _ h)) (by decide +kernel))) (goodIn_sub (fun _ h => List.mem_cons_of_mem _ (List.mem_append_left _ (List.mem_append_right _ h))) (by decide +kernel))
set_option maxRecDepth 20000 in
theorem gL_areDeals_L_guest : GoodIn wsL_areDeals (va_wsS RL 90 yL_guest wsL_guest) := goodIn_app (goodIn_of _ (by decide +kernel)) ggL_areDeals_L_guest
theorem dL_areDeals_0 : decode cL_areDeals 0 = .ok (.aload_n 0, 1) := by decide +kernel
theorem dL_areDeals_1 : decode cL_areDeals 1 = .ok (.iconst 0, 1) := by decide +kernel
theorem dL_areDeals_2 : decode cL_areDeals 2 = .ok (.invokestatic 85, 3) := by decide +kernel
theorem dL_areDeals_5 : decode cL_areDeals 5 = .ok (.istore_n 1, 1) := by decide +kernel
theorem dL_areDeals_6 : decode cL_areDeals 6 = .ok (.aload_n 0, 1) := by decide +kernel
theorem dL_areDeals_7 : decode cL_areDeals 7 = .ok (.invokevirtual 124, 3) := by decide +kernel
theorem dL_areDeals_10 : decode cL_areDeals 10 = .ok (.istore_n 2, 1) := by decide +kernel
theorem dL_areDeals_11 : decode cL_areDeals 11 = .ok (.iconst 0, 1) := by decide +kernel
theorem dL_areDeals_12 : decode cL_areDeals 12 = .ok (.istore_n 3, 1) := by decide +kernel
theorem dL_areDeals_13 : decode cL_areDeals 13 = .ok (.iconst 0, 1) := by decide +kernel
theorem dL_areDeals_14 : decode cL_areDeals 14 = .ok (.istore 4, 2) := by decide +kernel
theorem dL_areDeals_16 : decode cL_areDeals 16 = .ok (.iconst 0, 1) := by decide +kernel
theorem dL_areDeals_17 : decode cL_areDeals 17 = .ok (.istore 5, 2) := by decide +kernel
theorem dL_areDeals_19 : decode cL_areDeals 19 = .ok (.iload_n 1, 1) := by decide +kernel
theorem dL_areDeals_20 : decode cL_areDeals 20 = .ok (.ifCond .ne 15, 3) := by decide +kernel
theorem dL_areDeals_23 : decode cL_areDeals 23 = .ok (.iload_n 2, 1) := by decide +kernel
theorem dL_areDeals_24 : decode cL_areDeals 24 = .ok (.ifCond .ne 7, 3) := by decide +kernel
theorem dL_areDeals_27 : decode cL_areDeals 27 = .ok (.iconst 1, 1) := by decide +kernel
theorem dL_areDeals_28 : decode cL_areDeals 28 = .ok (.goto 34, 3) := by decide +kernel
theorem dL_areDeals_31 : decode cL_areDeals 31 = .ok (.iconst 0, 1) := by decide +kernel
theorem dL_areDeals_32 : decode cL_areDeals 32 = .ok (.goto 30, 3) := by decide +kernel
theorem dL_areDeals_35 : decode cL_areDeals 35 = .ok (.iload_n 2, 1) := by decide +kernel
theorem dL_areDeals_36 : decode cL_areDeals 36 = .ok (.ifCond .le 25, 3) := by decide +kernel
theorem dL_areDeals_39 : decode cL_areDeals 39 = .ok (.iload_n 2, 1) := by decide +kernel
theorem dL_areDeals_40 : decode cL_areDeals 40 = .ok (.iload_n 1, 1) := by decide +kernel
theorem dL_areDeals_41 : decode cL_areDeals 41 = .ok (.iconst 3, 1) := by decide +kernel
theorem dL_areDeals_42 : decode cL_areDeals 42 = .ok (.if_icmp .ne 9, 3) := by decide +kernel
theorem dL_areDeals_45 : decode cL_areDeals 45 = .ok (.sipush 1680, 3) := by decide +kernel
theorem dL_areDeals_48 : decode cL_areDeals 48 = .ok (.goto 6, 3) := by decide +kernel
theorem dL_areDeals_51 : decode cL_areDeals 51 = .ok (.sipush 5040, 3) := by decide +kernel
theorem dL_areDeals_54 : decode cL_areDeals 54 = .ok (.if_icmp .gt 7, 3) := by decide +kernel
theorem dL_areDeals_57 : decode cL_areDeals 57 = .ok (.iconst 1, 1) := by decide +kernel
theorem dL_areDeals_58 : decode cL_areDeals 58 = .ok (.goto 4, 3) := by decide +kernel
theorem dL_areDeals_61 : decode cL_areDeals 61 = .ok (.iconst 0, 1) := by decide +kernel
theorem dL_areDeals_62 : decode cL_areDeals 62 = .ok (.istore 6, 2) := by decide +kernel
theorem dL_areDeals_64 : decode cL_areDeals 64 = .ok (.iconst 0, 1) := by decide +kernel
theorem dL_areDeals_65 : decode cL_areDeals 65 = .ok (.istore 7, 2) := by decide +kernel
theorem dL_areDeals_67 : decode cL_areDeals 67 = .ok (.iload 7, 2) := by decide +kernel
theorem dL_areDeals_69 : decode cL_areDeals 69 = .ok (.bipush 8, 2) := by decide +kernel
theorem dL_areDeals_71 : decode cL_areDeals 71 = .ok (.if_icmp .ge 134, 3) := by decide +kernel
theorem dL_areDeals_74 : decode cL_areDeals 74 = .ok (.iload 6, 2) := by decide +kernel
theorem dL_areDeals_76 : decode cL_areDeals 76 = .ok (.ifCond .eq 129, 3) := by decide +kernel
theorem dL_areDeals_79 : decode cL_areDeals 79 = .ok (.aload_n 0, 1) := by decide +kernel
theorem dL_areDeals_80 : decode cL_areDeals 80 = .ok (.iload 7, 2) := by decide +kernel
theorem dL_areDeals_82 : decode cL_areDeals 82 = .ok (.invokestatic 111, 3) := by decide +kernel
theorem dL_areDeals_85 : decode cL_areDeals 85 = .ok (.istore 8, 2) := by decide +kernel
theorem dL_areDeals_87 : decode cL_areDeals 87 = .ok (.iload 8, 2) := by decide +kernel
theorem dL_areDeals_89 : decode cL_areDeals 89 = .ok (.istore 9, 2) := by decide +kernel
