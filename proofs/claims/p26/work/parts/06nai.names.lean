set_option maxRecDepth 20000 in
theorem ggL_guest_X4_guest_x0 : GoodIn wsL_guest wsX00 := goodIn_r _ [90, 91, 92, 93] (by decide +kernel) (by decide +kernel)
set_option maxRecDepth 20000 in
theorem ggL_guest_X4_guest : GoodIn wsL_guest wsX4_guest := goodIn_ca (goodIn_ca (goodIn_cc ggL_guest_X4_guest_h (goodIn_app (goodIn_app (goodIn_app (goodIn_app ggL_guest_X4_guest_r1 (goodIn_app ggL_guest_X4_guest_r2 (ggL_guest_X4_guest_r3))) ggL_guest_X4_guest_x4) ggL_guest_X4_guest_x1) ggL_guest_X4_guest_x0)) (goodIn_sub (fun _ h => List.mem_cons_of_mem _ (List.mem_append_left _ (List.mem_append_right _ h))) (by decide +kernel))) (goodIn_sub (fun _ h => List.mem_cons_of_mem _ (List.mem_append_right _ h)) (by decide +kernel))
set_option maxRecDepth 20000 in
theorem gL_guest_X4_guest : GoodIn wsL_guest (wsV RL 39 RX4 yX4_guest wsX4_guest) := goodIn_app (goodIn_of _ (by decide +kernel)) ggL_guest_X4_guest
theorem dL_guest_0 : decode cL_guest 0 = .ok (.aload_n 0, 1) := by decide +kernel
theorem dL_guest_1 : decode cL_guest 1 = .ok (.iload_n 1, 1) := by decide +kernel
theorem dL_guest_2 : decode cL_guest 2 = .ok (.iload_n 2, 1) := by decide +kernel
theorem dL_guest_3 : decode cL_guest 3 = .ok (.invokevirtual 39, 3) := by decide +kernel
theorem dL_guest_6 : decode cL_guest 6 = .ok (.istore_n 3, 1) := by decide +kernel
theorem dL_guest_7 : decode cL_guest 7 = .ok (.goto 13, 3) := by decide +kernel
theorem dL_guest_10 : decode cL_guest 10 = .ok (.astore 4, 2) := by decide +kernel
theorem dL_guest_12 : decode cL_guest 12 = .ok (.ldc 27, 2) := by decide +kernel
theorem dL_guest_14 : decode cL_guest 14 = .ok (.ireturn, 1) := by decide +kernel
theorem dL_guest_15 : decode cL_guest 15 = .ok (.astore 4, 2) := by decide +kernel
theorem dL_guest_17 : decode cL_guest 17 = .ok (.ldc 17, 2) := by decide +kernel
theorem dL_guest_19 : decode cL_guest 19 = .ok (.ireturn, 1) := by decide +kernel
theorem dL_guest_20 : decode cL_guest 20 = .ok (.iload_n 3, 1) := by decide +kernel
theorem dL_guest_21 : decode cL_guest 21 = .ok (.ireturn, 1) := by decide +kernel
set_option maxRecDepth 20000 in
theorem ggL_value_X4_value : GoodIn wsL_value wsX4_value := goodIn_ca (goodIn_r _ [7, 8, 9, 10, 11, 12, 13, 14, 15, 16, 17, 18, 19, 20, 21, 22, 23, 24, 25, 26, 27, 28, 29, 30, 31, 32, 33, 34, 35, 36, 37, 38, 39, 40, 41, 42, 43, 44, 45, 46, 47, 48, 49, 50, 51, 52, 53, 54, 55, 56] (by decide +kernel) (by decide +kernel)) (goodIn_sub (fun _ h => List.mem_cons_of_mem _ (List.mem_append_right _ h)) (by decide +kernel))
set_option maxRecDepth 20000 in
theorem gL_value_X4_value : GoodIn wsL_value (wsV RL 42 RX4 yX4_value wsX4_value) := goodIn_app (goodIn_of _ (by decide +kernel)) ggL_value_X4_value
theorem dL_value_0 : decode cL_value 0 = .ok (.aload_n 0, 1) := by decide +kernel
theorem dL_value_1 : decode cL_value 1 = .ok (.iload_n 1, 1) := by decide +kernel
theorem dL_value_2 : decode cL_value 2 = .ok (.invokevirtual 42, 3) := by decide +kernel
theorem dL_value_5 : decode cL_value 5 = .ok (.istore_n 2, 1) := by decide +kernel
theorem dL_value_6 : decode cL_value 6 = .ok (.goto 7, 3) := by decide +kernel
theorem dL_value_9 : decode cL_value 9 = .ok (.astore_n 3, 1) := by decide +kernel
theorem dL_value_10 : decode cL_value 10 = .ok (.ldc 17, 2) := by decide +kernel
theorem dL_value_12 : decode cL_value 12 = .ok (.ireturn, 1) := by decide +kernel
theorem dL_value_13 : decode cL_value 13 = .ok (.iload_n 2, 1) := by decide +kernel
theorem dL_value_14 : decode cL_value 14 = .ok (.ireturn, 1) := by decide +kernel
set_option maxRecDepth 20000 in
theorem ggL_question_X4_question : GoodIn wsL_question wsX4_question := goodIn_ca (goodIn_ca (goodIn_r _ [9, 10, 11, 12, 13, 14, 15, 16, 17, 18, 19, 20, 21, 22, 23, 24, 25, 26, 27, 28, 29, 30, 31, 32, 33, 34, 35, 36, 37, 38, 39, 40, 41, 42, 43, 44, 45, 46] (by decide +kernel) (by decide +kernel)) (goodIn_sub (fun _ h => List.mem_cons_of_mem _ (List.mem_append_left _ (List.mem_append_right _ h))) (by decide +kernel))) (goodIn_sub (fun _ h => List.mem_cons_of_mem _ (List.mem_append_right _ h)) (by decide +kernel))
set_option maxRecDepth 20000 in
theorem gL_question_X4_question : GoodIn wsL_question (wsV RL 45 RX4 yX4_question wsX4_question) := goodIn_app (goodIn_of _ (by decide +kernel)) ggL_question_X4_question
theorem dL_question_0 : decode cL_question 0 = .ok (.aload_n 0, 1) := by decide +kernel
theorem dL_question_1 : decode cL_question 1 = .ok (.iload_n 1, 1) := by decide +kernel
theorem dL_question_2 : decode cL_question 2 = .ok (.iload_n 2, 1) := by decide +kernel
theorem dL_question_3 : decode cL_question 3 = .ok (.invokevirtual 45, 3) := by decide +kernel
theorem dL_question_6 : decode cL_question 6 = .ok (.istore_n 3, 1) := by decide +kernel
theorem dL_question_7 : decode cL_question 7 = .ok (.goto 13, 3) := by decide +kernel
theorem dL_question_10 : decode cL_question 10 = .ok (.astore 4, 2) := by decide +kernel
theorem dL_question_12 : decode cL_question 12 = .ok (.ldc 27, 2) := by decide +kernel
theorem dL_question_14 : decode cL_question 14 = .ok (.ireturn, 1) := by decide +kernel
theorem dL_question_15 : decode cL_question 15 = .ok (.astore 4, 2) := by decide +kernel
theorem dL_question_17 : decode cL_question 17 = .ok (.ldc 17, 2) := by decide +kernel
theorem dL_question_19 : decode cL_question 19 = .ok (.ireturn, 1) := by decide +kernel
theorem dL_question_20 : decode cL_question 20 = .ok (.iload_n 3, 1) := by decide +kernel
theorem dL_question_21 : decode cL_question 21 = .ok (.ireturn, 1) := by decide +kernel
set_option maxRecDepth 20000 in
theorem ggL_dealsWith_X4_dealsWith : GoodIn wsL_dealsWith wsX4_dealsWith := goodIn_ca (goodIn_r _ [7, 8, 9, 10, 11, 12, 6, 13, 14, 15, 16, 17, 18, 19, 20, 21, 22, 23, 24, 25, 26, 27, 28, 29, 30, 31, 32, 33, 34, 35, 36, 37, 38, 39, 40, 41, 42, 43, 44, 45, 46, 47, 48, 49, 50, 51, 52, 53, 54, 55, 56, 57, 58, 59] (by decide +kernel) (by decide +kernel)) (goodIn_sub (fun _ h => List.mem_cons_of_mem _ (List.mem_append_right _ h)) (by decide +kernel))
set_option maxRecDepth 20000 in
theorem gL_dealsWith_X4_dealsWith : GoodIn wsL_dealsWith (wsV RL 48 RX4 yX4_dealsWith wsX4_dealsWith) := goodIn_app (goodIn_of _ (by decide +kernel)) ggL_dealsWith_X4_dealsWith
theorem dL_dealsWith_0 : decode cL_dealsWith 0 = .ok (.aload_n 0, 1) := by decide +kernel
theorem dL_dealsWith_1 : decode cL_dealsWith 1 = .ok (.iload_n 1, 1) := by decide +kernel
theorem dL_dealsWith_2 : decode cL_dealsWith 2 = .ok (.invokevirtual 48, 3) := by decide +kernel
theorem dL_dealsWith_5 : decode cL_dealsWith 5 = .ok (.istore_n 2, 1) := by decide +kernel
theorem dL_dealsWith_6 : decode cL_dealsWith 6 = .ok (.goto 7, 3) := by decide +kernel
theorem dL_dealsWith_9 : decode cL_dealsWith 9 = .ok (.astore_n 3, 1) := by decide +kernel
theorem dL_dealsWith_10 : decode cL_dealsWith 10 = .ok (.ldc 27, 2) := by decide +kernel
theorem dL_dealsWith_12 : decode cL_dealsWith 12 = .ok (.ireturn, 1) := by decide +kernel
theorem dL_dealsWith_13 : decode cL_dealsWith 13 = .ok (.iload_n 2, 1) := by decide +kernel
theorem dL_dealsWith_14 : decode cL_dealsWith 14 = .ok (.ireturn, 1) := by decide +kernel
set_option maxRecDepth 20000 in
theorem ggL_dealsHeld_X4_dealsHeld : GoodIn wsL_dealsHeld wsX4_dealsHeld := goodIn_ca (goodIn_r _ [7, 8, 9, 10, 11, 12, 13, 14, 15, 16, 17, 18, 6, 19, 20, 21, 22, 23, 24, 25, 26, 27, 28, 29, 30, 31, 32, 33, 34, 35, 36, 37, 38, 39, 40, 41, 42, 43, 44, 45, 46, 47, 48, 49, 50, 51, 52, 53, 54, 55, 56, 57, 58, 59, 60, 61, 62, 63, 64, 65] (by decide +kernel) (by decide +kernel)) (goodIn_sub (fun _ h => List.mem_cons_of_mem _ (List.mem_append_right _ h)) (by decide +kernel))
set_option maxRecDepth 20000 in
theorem gL_dealsHeld_X4_dealsHeld : GoodIn wsL_dealsHeld (wsV RL 51 RX4 yX4_dealsHeld wsX4_dealsHeld) := goodIn_app (goodIn_of _ (by decide +kernel)) ggL_dealsHeld_X4_dealsHeld
theorem dL_dealsHeld_0 : decode cL_dealsHeld 0 = .ok (.aload_n 0, 1) := by decide +kernel
theorem dL_dealsHeld_1 : decode cL_dealsHeld 1 = .ok (.iload_n 1, 1) := by decide +kernel
theorem dL_dealsHeld_2 : decode cL_dealsHeld 2 = .ok (.iload_n 2, 1) := by decide +kernel
theorem dL_dealsHeld_3 : decode cL_dealsHeld 3 = .ok (.invokevirtual 51, 3) := by decide +kernel
theorem dL_dealsHeld_6 : decode cL_dealsHeld 6 = .ok (.istore_n 3, 1) := by decide +kernel
theorem dL_dealsHeld_7 : decode cL_dealsHeld 7 = .ok (.goto 8, 3) := by decide +kernel
theorem dL_dealsHeld_10 : decode cL_dealsHeld 10 = .ok (.astore 4, 2) := by decide +kernel
theorem dL_dealsHeld_12 : decode cL_dealsHeld 12 = .ok (.ldc 27, 2) := by decide +kernel
theorem dL_dealsHeld_14 : decode cL_dealsHeld 14 = .ok (.ireturn, 1) := by decide +kernel
theorem dL_dealsHeld_15 : decode cL_dealsHeld 15 = .ok (.iload_n 3, 1) := by decide +kernel
theorem dL_dealsHeld_16 : decode cL_dealsHeld 16 = .ok (.ireturn, 1) := by decide +kernel
set_option maxRecDepth 20000 in
theorem ggL_chance_X4_chance : GoodIn wsL_chance wsX4_chance := goodIn_ca (goodIn_r _ [7, 8, 9, 10, 11, 12, 6, 13, 14, 15, 16, 17, 18, 19, 20, 21, 22, 23, 24, 25, 26, 27, 28, 29, 30, 31, 32, 33, 34, 35, 36, 37, 38, 39, 40, 41, 42, 43, 44, 45, 46, 47, 48, 49, 50, 51, 52, 53, 54, 55, 56, 57, 58, 59, 60, 61, 62] (by decide +kernel) (by decide +kernel)) (goodIn_sub (fun _ h => List.mem_cons_of_mem _ (List.mem_append_right _ h)) (by decide +kernel))
set_option maxRecDepth 20000 in
theorem gL_chance_X4_chance : GoodIn wsL_chance (wsV RL 54 RX4 yX4_chance wsX4_chance) := goodIn_app (goodIn_of _ (by decide +kernel)) ggL_chance_X4_chance
theorem dL_chance_0 : decode cL_chance 0 = .ok (.aload_n 0, 1) := by decide +kernel
theorem dL_chance_1 : decode cL_chance 1 = .ok (.iload_n 1, 1) := by decide +kernel
theorem dL_chance_2 : decode cL_chance 2 = .ok (.invokevirtual 54, 3) := by decide +kernel
theorem dL_chance_5 : decode cL_chance 5 = .ok (.dstore_n 2, 1) := by decide +kernel
theorem dL_chance_6 : decode cL_chance 6 = .ok (.goto 9, 3) := by decide +kernel
theorem dL_chance_9 : decode cL_chance 9 = .ok (.astore 4, 2) := by decide +kernel
theorem dL_chance_11 : decode cL_chance 11 = .ok (.ldc2_w 58, 3) := by decide +kernel
theorem dL_chance_14 : decode cL_chance 14 = .ok (.dreturn, 1) := by decide +kernel
theorem dL_chance_15 : decode cL_chance 15 = .ok (.dload_n 2, 1) := by decide +kernel
theorem dL_chance_16 : decode cL_chance 16 = .ok (.dreturn, 1) := by decide +kernel
set_option maxRecDepth 20000 in
theorem ggL_dealsIf_X4_dealsIf_h : GoodIn wsL_dealsIf [.code yX4_dealsIf cX4_dealsIf 4 (some .int)] := goodIn_r _ [9] (by decide +kernel) (by decide +kernel)
set_option maxRecDepth 20000 in
theorem ggL_dealsIf_X4_dealsIf_r1 : GoodIn wsL_dealsIf wsX4_dealsIf_r1 := goodIn_r _ [10, 11, 12, 13, 14, 15, 16, 17, 18, 19, 20, 21, 22, 23, 8, 24, 25, 26, 27, 28, 29, 30, 31, 32] (by decide +kernel) (by decide +kernel)
set_option maxRecDepth 20000 in
theorem ggL_dealsIf_X4_dealsIf_r2 : GoodIn wsL_dealsIf wsX4_dealsIf_r2 := goodIn_r _ [33, 34, 35, 36, 37, 38, 39, 40, 41, 42, 43, 44, 45, 46, 47, 48, 49, 50, 51, 52, 53, 54, 55, 56] (by decide +kernel) (by decide +kernel)
