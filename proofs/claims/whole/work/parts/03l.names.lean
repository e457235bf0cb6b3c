set_option maxRecDepth 20000 in
theorem gL_chance_X4_chance : GoodIn wsL_chance (wsV RL 49 RX4 yX4_chance wsX4_chance) := goodIn_app (goodIn_of _ (by decide +kernel)) ggL_chance_X4_chance
theorem dL_chance_0 : decode cL_chance 0 = .ok (.aload_n 2, 1) := by decide +kernel
theorem dL_chance_1 : decode cL_chance 1 = .ok (.iconst 0, 1) := by decide +kernel
theorem dL_chance_2 : decode cL_chance 2 = .ok (.aload_n 0, 1) := by decide +kernel
theorem dL_chance_3 : decode cL_chance 3 = .ok (.iload_n 1, 1) := by decide +kernel
theorem dL_chance_4 : decode cL_chance 4 = .ok (.invokevirtual 49, 3) := by decide +kernel
theorem dL_chance_7 : decode cL_chance 7 = .ok (.dastore, 1) := by decide +kernel
theorem dL_chance_8 : decode cL_chance 8 = .ok (.goto 6, 3) := by decide +kernel
theorem dL_chance_11 : decode cL_chance 11 = .ok (.astore_n 3, 1) := by decide +kernel
theorem dL_chance_12 : decode cL_chance 12 = .ok (.iconst 1, 1) := by decide +kernel
theorem dL_chance_13 : decode cL_chance 13 = .ok (.ireturn, 1) := by decide +kernel
theorem dL_chance_14 : decode cL_chance 14 = .ok (.iconst 0, 1) := by decide +kernel
theorem dL_chance_15 : decode cL_chance 15 = .ok (.ireturn, 1) := by decide +kernel
set_option maxRecDepth 20000 in
theorem ggL_dealsIf_X4_dealsIf : GoodIn wsL_dealsIf wsX4_dealsIf := goodIn_ca (goodIn_ca (goodIn_r _ [7, 8, 9, 10, 11, 12, 13, 14, 15, 16, 17, 18, 19, 20, 21, 6, 22, 23, 24, 25, 26, 27, 28, 29, 30, 31, 32, 33, 34, 35, 36, 37, 38, 39, 40, 41, 42, 43, 44, 45, 46, 47, 48, 49, 50, 51, 52, 53, 54, 55, 56, 57, 58, 59, 60, 61, 62, 63, 64, 65, 66, 67, 68, 69, 70, 71, 72, 73, 74, 75, 76, 77, 78, 79, 80, 81, 82, 83, 84, 85, 86, 87] (by decide +kernel) (by decide +kernel)) (goodIn_sub (fun _ h => List.mem_cons_of_mem _ (List.mem_append_left _ (List.mem_append_right _ h))) (by decide +kernel))) (goodIn_sub (fun _ h => List.mem_cons_of_mem _ (List.mem_append_right _ h)) (by decide +kernel))
set_option maxRecDepth 20000 in
theorem gL_dealsIf_X4_dealsIf : GoodIn wsL_dealsIf (wsV RL 53 RX4 yX4_dealsIf wsX4_dealsIf) := goodIn_app (goodIn_of _ (by decide +kernel)) ggL_dealsIf_X4_dealsIf
theorem dL_dealsIf_0 : decode cL_dealsIf 0 = .ok (.aload 4, 2) := by decide +kernel
theorem dL_dealsIf_2 : decode cL_dealsIf 2 = .ok (.iconst 0, 1) := by decide +kernel
theorem dL_dealsIf_3 : decode cL_dealsIf 3 = .ok (.aload_n 0, 1) := by decide +kernel
theorem dL_dealsIf_4 : decode cL_dealsIf 4 = .ok (.iload_n 1, 1) := by decide +kernel
theorem dL_dealsIf_5 : decode cL_dealsIf 5 = .ok (.iload_n 2, 1) := by decide +kernel
theorem dL_dealsIf_6 : decode cL_dealsIf 6 = .ok (.iload_n 3, 1) := by decide +kernel
theorem dL_dealsIf_7 : decode cL_dealsIf 7 = .ok (.invokevirtual 53, 3) := by decide +kernel
theorem dL_dealsIf_10 : decode cL_dealsIf 10 = .ok (.i2l, 1) := by decide +kernel
theorem dL_dealsIf_11 : decode cL_dealsIf 11 = .ok (.lastore, 1) := by decide +kernel
theorem dL_dealsIf_12 : decode cL_dealsIf 12 = .ok (.goto 11, 3) := by decide +kernel
theorem dL_dealsIf_15 : decode cL_dealsIf 15 = .ok (.astore 5, 2) := by decide +kernel
theorem dL_dealsIf_17 : decode cL_dealsIf 17 = .ok (.iconst 1, 1) := by decide +kernel
theorem dL_dealsIf_18 : decode cL_dealsIf 18 = .ok (.ireturn, 1) := by decide +kernel
theorem dL_dealsIf_19 : decode cL_dealsIf 19 = .ok (.astore 5, 2) := by decide +kernel
theorem dL_dealsIf_21 : decode cL_dealsIf 21 = .ok (.iconst 2, 1) := by decide +kernel
theorem dL_dealsIf_22 : decode cL_dealsIf 22 = .ok (.ireturn, 1) := by decide +kernel
theorem dL_dealsIf_23 : decode cL_dealsIf 23 = .ok (.iconst 0, 1) := by decide +kernel
theorem dL_dealsIf_24 : decode cL_dealsIf 24 = .ok (.ireturn, 1) := by decide +kernel
set_option maxRecDepth 20000 in
theorem ggL_worst_X4_worst : GoodIn wsL_worst wsX4_worst := goodIn_ca (goodIn_ca (goodIn_r _ [7, 8, 9, 10, 11, 12, 13, 14, 15, 16, 17, 18, 19, 20, 21, 6, 22, 23, 24, 25, 26, 27, 28, 29, 30, 31, 32, 33, 34, 35, 36, 37, 38, 39, 40, 41, 42, 43, 44, 45, 46, 47, 48, 49, 50, 51, 52, 53, 54, 55, 56, 57, 58, 59, 60, 61, 62, 63, 64, 65, 66, 67, 68, 69, 70, 71, 72, 73, 74, 75, 76, 77, 78, 79, 80, 81, 82, 83, 84, 85, 86, 87, 88, 89, 90, 91] (by decide +kernel) (by decide +kernel)) (goodIn_sub (fun _ h => List.mem_cons_of_mem _ (List.mem_append_left _ (List.mem_append_right _ h))) (by decide +kernel))) (goodIn_sub (fun _ h => List.mem_cons_of_mem _ (List.mem_append_right _ h)) (by decide +kernel))
set_option maxRecDepth 20000 in
theorem gL_worst_X4_worst : GoodIn wsL_worst (wsV RL 57 RX4 yX4_worst wsX4_worst) := goodIn_app (goodIn_of _ (by decide +kernel)) ggL_worst_X4_worst
theorem dL_worst_0 : decode cL_worst 0 = .ok (.aload_n 3, 1) := by decide +kernel
theorem dL_worst_1 : decode cL_worst 1 = .ok (.iconst 0, 1) := by decide +kernel
theorem dL_worst_2 : decode cL_worst 2 = .ok (.aload_n 0, 1) := by decide +kernel
theorem dL_worst_3 : decode cL_worst 3 = .ok (.iload_n 1, 1) := by decide +kernel
theorem dL_worst_4 : decode cL_worst 4 = .ok (.iload_n 2, 1) := by decide +kernel
theorem dL_worst_5 : decode cL_worst 5 = .ok (.invokevirtual 57, 3) := by decide +kernel
theorem dL_worst_8 : decode cL_worst 8 = .ok (.i2l, 1) := by decide +kernel
theorem dL_worst_9 : decode cL_worst 9 = .ok (.lastore, 1) := by decide +kernel
theorem dL_worst_10 : decode cL_worst 10 = .ok (.goto 11, 3) := by decide +kernel
theorem dL_worst_13 : decode cL_worst 13 = .ok (.astore 4, 2) := by decide +kernel
theorem dL_worst_15 : decode cL_worst 15 = .ok (.iconst 1, 1) := by decide +kernel
theorem dL_worst_16 : decode cL_worst 16 = .ok (.ireturn, 1) := by decide +kernel
theorem dL_worst_17 : decode cL_worst 17 = .ok (.astore 4, 2) := by decide +kernel
theorem dL_worst_19 : decode cL_worst 19 = .ok (.iconst 2, 1) := by decide +kernel
theorem dL_worst_20 : decode cL_worst 20 = .ok (.ireturn, 1) := by decide +kernel
theorem dL_worst_21 : decode cL_worst 21 = .ok (.iconst 0, 1) := by decide +kernel
theorem dL_worst_22 : decode cL_worst 22 = .ok (.ireturn, 1) := by decide +kernel
set_option maxRecDepth 20000 in
theorem ggL_bestCards_X4_bestCards : GoodIn wsL_bestCards wsX4_bestCards := goodIn_ca (goodIn_r _ [6, 7, 8, 9, 10, 11, 12, 13, 14, 15, 16, 17, 18, 19, 20, 21, 22, 23, 24, 25, 26, 27, 28, 29, 30, 31, 32, 33, 34, 35, 36, 37, 38, 39, 40, 41, 42, 43, 44, 45, 46, 47, 48, 49, 50, 51, 52, 53, 54, 55, 56, 57, 58, 59, 60, 61, 62, 63, 64, 65, 66, 67, 68, 69, 70, 71, 72, 73, 74, 75, 76, 77, 78, 79, 80, 81, 82, 83, 84, 85, 86, 87, 88, 89] (by decide +kernel) (by decide +kernel)) (goodIn_sub (fun _ h => List.mem_cons_of_mem _ (List.mem_append_right _ h)) (by decide +kernel))
set_option maxRecDepth 20000 in
theorem gL_bestCards_X4_bestCards : GoodIn wsL_bestCards (wsV RL 60 RX4 yX4_bestCards wsX4_bestCards) := goodIn_app (goodIn_of _ (by decide +kernel)) ggL_bestCards_X4_bestCards
theorem dL_bestCards_0 : decode cL_bestCards 0 = .ok (.aload_n 2, 1) := by decide +kernel
theorem dL_bestCards_1 : decode cL_bestCards 1 = .ok (.iconst 0, 1) := by decide +kernel
theorem dL_bestCards_2 : decode cL_bestCards 2 = .ok (.aload_n 0, 1) := by decide +kernel
theorem dL_bestCards_3 : decode cL_bestCards 3 = .ok (.iload_n 1, 1) := by decide +kernel
theorem dL_bestCards_4 : decode cL_bestCards 4 = .ok (.invokevirtual 60, 3) := by decide +kernel
theorem dL_bestCards_7 : decode cL_bestCards 7 = .ok (.i2l, 1) := by decide +kernel
theorem dL_bestCards_8 : decode cL_bestCards 8 = .ok (.lastore, 1) := by decide +kernel
theorem dL_bestCards_9 : decode cL_bestCards 9 = .ok (.goto 6, 3) := by decide +kernel
theorem dL_bestCards_12 : decode cL_bestCards 12 = .ok (.astore_n 3, 1) := by decide +kernel
theorem dL_bestCards_13 : decode cL_bestCards 13 = .ok (.iconst 1, 1) := by decide +kernel
theorem dL_bestCards_14 : decode cL_bestCards 14 = .ok (.ireturn, 1) := by decide +kernel
theorem dL_bestCards_15 : decode cL_bestCards 15 = .ok (.iconst 0, 1) := by decide +kernel
theorem dL_bestCards_16 : decode cL_bestCards 16 = .ok (.ireturn, 1) := by decide +kernel
set_option maxRecDepth 20000 in
theorem ggL_leftByProof_X4_leftByProof : GoodIn wsL_leftByProof wsX4_leftByProof := goodIn_ca (goodIn_r _ [6, 7, 8, 9, 10, 11, 12, 13, 14, 15, 16, 17, 5, 18, 19, 20, 21, 22, 23, 24, 25, 26, 27, 28, 29, 30, 31, 32, 33, 34, 35, 36, 37, 38, 39, 40, 41, 42, 43, 44, 45, 46, 47, 48, 49, 50, 51, 52, 53, 54, 55, 56, 57, 58, 59, 60, 61, 62, 63, 64, 65, 66, 67] (by decide +kernel) (by decide +kernel)) (goodIn_sub (fun _ h => List.mem_cons_of_mem _ (List.mem_append_right _ h)) (by decide +kernel))
set_option maxRecDepth 20000 in
theorem gL_leftByProof_X4_leftByProof : GoodIn wsL_leftByProof (wsV RL 63 RX4 yX4_leftByProof wsX4_leftByProof) := goodIn_app (goodIn_of _ (by decide +kernel)) ggL_leftByProof_X4_leftByProof
theorem dL_leftByProof_0 : decode cL_leftByProof 0 = .ok (.aload_n 3, 1) := by decide +kernel
theorem dL_leftByProof_1 : decode cL_leftByProof 1 = .ok (.iconst 0, 1) := by decide +kernel
theorem dL_leftByProof_2 : decode cL_leftByProof 2 = .ok (.aload_n 0, 1) := by decide +kernel
theorem dL_leftByProof_3 : decode cL_leftByProof 3 = .ok (.iload_n 1, 1) := by decide +kernel
theorem dL_leftByProof_4 : decode cL_leftByProof 4 = .ok (.iload_n 2, 1) := by decide +kernel
theorem dL_leftByProof_5 : decode cL_leftByProof 5 = .ok (.invokevirtual 63, 3) := by decide +kernel
theorem dL_leftByProof_8 : decode cL_leftByProof 8 = .ok (.dastore, 1) := by decide +kernel
theorem dL_leftByProof_9 : decode cL_leftByProof 9 = .ok (.goto 7, 3) := by decide +kernel
theorem dL_leftByProof_12 : decode cL_leftByProof 12 = .ok (.astore 4, 2) := by decide +kernel
theorem dL_leftByProof_14 : decode cL_leftByProof 14 = .ok (.iconst 1, 1) := by decide +kernel
theorem dL_leftByProof_15 : decode cL_leftByProof 15 = .ok (.ireturn, 1) := by decide +kernel
theorem dL_leftByProof_16 : decode cL_leftByProof 16 = .ok (.iconst 0, 1) := by decide +kernel
theorem dL_leftByProof_17 : decode cL_leftByProof 17 = .ok (.ireturn, 1) := by decide +kernel
set_option maxRecDepth 20000 in
theorem ggL_append_X4_append : GoodIn wsL_append wsX4_append := goodIn_ca (goodIn_ca (goodIn_r _ [7, 8, 9, 10, 11, 12, 13, 14, 15, 16, 17, 18, 19, 20, 21, 22, 23, 24, 25, 26, 27, 28, 29, 30, 31, 32, 33] (by decide +kernel) (by decide +kernel)) (goodIn_sub (fun _ h => List.mem_cons_of_mem _ (List.mem_append_left _ (List.mem_append_right _ h))) (by decide +kernel))) (goodIn_sub (fun _ h => List.mem_cons_of_mem _ (List.mem_append_right _ h)) (by decide +kernel))
set_option maxRecDepth 20000 in
theorem gL_append_X4_append : GoodIn wsL_append (wsV RL 67 RX4 yX4_append wsX4_append) := goodIn_app (goodIn_of _ (by decide +kernel)) ggL_append_X4_append
theorem dL_append_0 : decode cL_append 0 = .ok (.aload_n 2, 1) := by decide +kernel
theorem dL_append_1 : decode cL_append 1 = .ok (.iconst 0, 1) := by decide +kernel
theorem dL_append_2 : decode cL_append 2 = .ok (.aload_n 0, 1) := by decide +kernel
theorem dL_append_3 : decode cL_append 3 = .ok (.iload_n 1, 1) := by decide +kernel
theorem dL_append_4 : decode cL_append 4 = .ok (.invokevirtual 67, 3) := by decide +kernel
theorem dL_append_7 : decode cL_append 7 = .ok (.i2l, 1) := by decide +kernel
theorem dL_append_8 : decode cL_append 8 = .ok (.lastore, 1) := by decide +kernel
theorem dL_append_9 : decode cL_append 9 = .ok (.goto 9, 3) := by decide +kernel
theorem dL_append_12 : decode cL_append 12 = .ok (.astore_n 3, 1) := by decide +kernel
theorem dL_append_13 : decode cL_append 13 = .ok (.iconst 1, 1) := by decide +kernel
theorem dL_append_14 : decode cL_append 14 = .ok (.ireturn, 1) := by decide +kernel
theorem dL_append_15 : decode cL_append 15 = .ok (.astore_n 3, 1) := by decide +kernel
theorem dL_append_16 : decode cL_append 16 = .ok (.iconst 2, 1) := by decide +kernel
theorem dL_append_17 : decode cL_append 17 = .ok (.ireturn, 1) := by decide +kernel
theorem dL_append_18 : decode cL_append 18 = .ok (.iconst 0, 1) := by decide +kernel
theorem dL_append_19 : decode cL_append 19 = .ok (.ireturn, 1) := by decide +kernel
set_option maxRecDepth 20000 in
theorem ggL_undo_X4_undo : GoodIn wsL_undo wsX4_undo := goodIn_ca (goodIn_r _ [6, 7, 8, 9, 10, 11, 12, 5, 13, 14, 15, 16, 17, 18, 19, 20, 21, 22, 23, 24, 25, 26, 27, 28, 29, 30, 31, 32, 33, 34, 35, 36, 37, 38, 39, 40, 41, 42, 43, 44, 45, 46, 47, 48, 49, 50, 51, 52, 53, 54, 55, 56, 57, 58, 59, 60, 61, 62, 63, 64, 65, 66, 67, 68, 69, 70, 71, 72, 73, 74, 75, 76, 77, 78, 79, 80, 81, 82, 83, 84, 85, 86, 87, 88, 89, 90, 91, 92, 93, 94] (by decide +kernel) (by decide +kernel)) (goodIn_sub (fun _ h => List.mem_cons_of_mem _ (List.mem_append_right _ h)) (by decide +kernel))
set_option maxRecDepth 20000 in
theorem gL_undo_X4_undo : GoodIn wsL_undo (wsV RL 70 RX4 yX4_undo wsX4_undo) := goodIn_app (goodIn_of _ (by decide +kernel)) ggL_undo_X4_undo
theorem dL_undo_0 : decode cL_undo 0 = .ok (.aload_n 1, 1) := by decide +kernel
theorem dL_undo_1 : decode cL_undo 1 = .ok (.iconst 0, 1) := by decide +kernel
theorem dL_undo_2 : decode cL_undo 2 = .ok (.aload_n 0, 1) := by decide +kernel
theorem dL_undo_3 : decode cL_undo 3 = .ok (.invokevirtual 70, 3) := by decide +kernel
theorem dL_undo_6 : decode cL_undo 6 = .ok (.i2l, 1) := by decide +kernel
theorem dL_undo_7 : decode cL_undo 7 = .ok (.lastore, 1) := by decide +kernel
theorem dL_undo_8 : decode cL_undo 8 = .ok (.goto 6, 3) := by decide +kernel
theorem dL_undo_11 : decode cL_undo 11 = .ok (.astore_n 2, 1) := by decide +kernel
theorem dL_undo_12 : decode cL_undo 12 = .ok (.iconst 1, 1) := by decide +kernel
theorem dL_undo_13 : decode cL_undo 13 = .ok (.ireturn, 1) := by decide +kernel
theorem dL_undo_14 : decode cL_undo 14 = .ok (.iconst 0, 1) := by decide +kernel
theorem dL_undo_15 : decode cL_undo 15 = .ok (.ireturn, 1) := by decide +kernel
set_option maxRecDepth 20000 in
theorem ggL_law_X4_init : GoodIn wsL_law wsX4_init := goodIn_r _ [10, 11, 12, 13, 14, 15, 16, 17, 18, 19, 20, 21, 22, 23, 24, 25, 26, 27, 28, 29, 30, 31, 32, 33, 34, 35, 36, 37, 38, 39, 40, 41, 42, 43, 44, 45, 46, 6, 47, 48, 49, 50, 51, 52, 53, 54, 55, 56, 57, 58, 732, 733, 734, 735, 736, 737, 738, 739, 740, 741, 742, 743, 744, 745, 746, 747, 748, 705, 706, 707, 708, 709, 710, 711, 749, 750, 751, 752, 753, 754, 755, 756, 757, 758, 759, 760, 761, 762] (by decide +kernel) (by decide +kernel)
set_option maxRecDepth 20000 in
theorem gL_law_X4_init : GoodIn wsL_law (wsX4_init) := ggL_law_X4_init
set_option maxRecDepth 20000 in
theorem ggL_law_X5_init : GoodIn wsL_law wsX5_init := goodIn_r _ [61, 62, 12, 13, 36, 63, 64, 65, 66, 67, 68, 69, 70, 71, 72, 73, 712, 713, 714, 715, 716, 717, 718, 719, 720, 721, 722, 723, 724, 725, 726, 727, 728, 729, 730, 731] (by decide +kernel) (by decide +kernel)
set_option maxRecDepth 20000 in
theorem gL_law_X5_init : GoodIn wsL_law (wsX5_init) := ggL_law_X5_init
set_option maxRecDepth 20000 in
theorem ggL_law_L_begin : GoodIn wsL_law wsL_begin := goodIn_ca (goodIn_ca (goodIn_r _ [77, 78, 79, 80, 81, 82, 2, 83, 84, 85, 86, 87, 88, 17, 22, 23, 89, 90, 91, 92, 93, 18, 94, 95, 96, 97, 98, 99, 100, 16, 101, 35, 102, 103, 104, 105, 106, 107, 108, 109, 37, 110, 38, 111, 39, 40, 41, 43, 112, 113, 114, 115, 116, 117, 118, 119, 120, 121, 122, 123, 124, 21, 125, 47, 126, 127, 49, 128, 129, 130, 131, 132, 133, 134, 135, 136, 137, 138, 139, 140, 141, 142, 143, 144, 145, 146, 147, 148, 149, 150, 151, 152, 153, 154, 155, 156, 157, 158, 159, 160, 161, 162, 163, 164, 165, 166, 167, 168, 169, 170, 171, 172, 173, 174, 175, 176, 177, 178, 179, 180, 181, 182, 183, 705, 706, 707, 708, 709, 710, 711, 732, 733, 734, 735, 736, 737, 738, 739, 740, 741, 742, 743, 744, 745, 746, 747, 748, 749, 750, 751, 752] (by decide +kernel) (by decide +kernel)) (goodIn_sub (fun _ h => List.mem_append_left _ (List.mem_append_left _ (List.mem_append_right _ h))) (by decide +kernel))) (goodIn_sub (fun _ h => List.mem_append_left _ (List.mem_append_right _ h)) (by decide +kernel))
set_option maxRecDepth 20000 in
theorem gL_law_L_begin : GoodIn wsL_law (va_wsS RL 78 yL_begin wsL_begin) := goodIn_app (goodIn_of _ (by decide +kernel)) ggL_law_L_begin
set_option maxRecDepth 20000 in
theorem ggL_law_X5_begin : GoodIn wsL_law wsX5_begin := goodIn_r _ [187, 188, 63, 189, 190, 5, 191, 192, 193, 194, 195, 196, 197, 198, 199, 200, 201, 64, 202, 203, 204, 205, 206, 207, 208, 209, 210, 211, 212, 213, 214, 215, 216, 217, 218, 219, 712, 713, 714, 715, 716, 717, 718, 719, 720, 721, 722, 723, 724, 725, 726, 727, 728, 729, 730, 731] (by decide +kernel) (by decide +kernel)
set_option maxRecDepth 20000 in
theorem gL_law_X5_begin : GoodIn wsL_law (wsV RL 83 RX5 yX5_begin wsX5_begin) := goodIn_app (goodIn_of _ (by decide +kernel)) ggL_law_X5_begin
set_option maxRecDepth 20000 in
theorem ggL_law_X5_thrown : GoodIn wsL_law wsX5_thrown := goodIn_r _ [223, 196, 712, 713, 714, 715, 716, 717, 718, 719, 720, 721, 722, 723, 724, 725, 726, 727, 728, 729, 730, 731] (by decide +kernel) (by decide +kernel)
set_option maxRecDepth 20000 in
theorem gL_law_X5_thrown : GoodIn wsL_law (wsV RL 84 RX5 yX5_thrown wsX5_thrown) := goodIn_app (goodIn_of _ (by decide +kernel)) ggL_law_X5_thrown
set_option maxRecDepth 20000 in
theorem ggL_law_L_ask : GoodIn wsL_law wsL_ask := goodIn_ca (goodIn_ca (goodIn_ca (goodIn_r _ [226, 227, 78, 79, 228, 229, 230, 2, 231, 232, 233, 84, 85, 86, 87, 17, 234, 235, 236, 16, 237, 102, 238, 239, 240, 241, 242, 243, 244, 111, 109, 245, 246, 247, 248, 103, 108, 249, 89, 90, 91, 92, 93, 18, 94, 95, 96, 97, 98, 99, 100, 101, 35, 104, 105, 106, 107, 37, 110, 38, 39, 40, 41, 43, 112, 113, 114, 115, 116, 117, 118, 119, 120, 121, 122, 123, 124, 21, 125, 47, 126, 127, 49, 128, 129, 130, 131, 132, 133, 250, 251, 252, 253, 254, 255, 256, 257, 182, 149, 150, 151, 152, 153, 154, 155, 156, 157, 158, 258, 259, 260, 261, 262, 263, 264, 265, 266, 267, 268, 48, 145, 146, 147, 148, 141, 142, 143, 144, 705, 706, 707, 708, 709, 710, 711, 732, 733, 734, 735, 736, 737, 738, 739, 740, 741, 742, 743, 744, 745, 746, 747, 748, 749, 750, 751, 752] (by decide +kernel) (by decide +kernel)) (goodIn_sub (fun _ h => List.mem_append_right _ h) (by decide +kernel))) (goodIn_sub (fun _ h => List.mem_append_left _ (List.mem_append_left _ (List.mem_append_right _ h))) (by decide +kernel))) (goodIn_sub (fun _ h => List.mem_append_left _ (List.mem_append_right _ h)) (by decide +kernel))
set_option maxRecDepth 20000 in
theorem gL_law_L_ask : GoodIn wsL_law (va_wsS RL 87 yL_ask wsL_ask) := goodIn_app (goodIn_of _ (by decide +kernel)) ggL_law_L_ask
set_option maxRecDepth 20000 in
theorem ggL_law_X5_ask : GoodIn wsL_law wsX5_ask := goodIn_r _ [272, 273, 274, 275, 5, 276, 63, 189, 190, 191, 277, 278, 279, 280, 281, 282, 283, 192, 193, 194, 195, 196, 197, 198, 199, 200, 201, 64, 284, 285, 286, 287, 217, 218, 219, 712, 713, 714, 715, 716, 717, 718, 719, 720, 721, 722, 723, 724, 725, 726, 727, 728, 729, 730, 731] (by decide +kernel) (by decide +kernel)
set_option maxRecDepth 20000 in
theorem gL_law_X5_ask : GoodIn wsL_law (wsV RL 90 RX5 yX5_ask wsX5_ask) := goodIn_app (goodIn_of _ (by decide +kernel)) ggL_law_X5_ask
set_option maxRecDepth 20000 in
theorem ggL_law_L_prove : GoodIn wsL_law wsL_prove := goodIn_ca (goodIn_ca (goodIn_r _ [290, 227, 79, 291, 292, 293, 2, 294, 232, 233, 86, 87, 17, 234, 235, 236, 16, 237, 102, 295, 296, 297, 298, 246, 247, 248, 103, 108, 249, 89, 90, 91, 92, 93, 18, 94, 95, 96, 97, 98, 99, 100, 101, 35, 104, 105, 106, 107, 109, 37, 110, 38, 111, 39, 40, 41, 43, 112, 113, 114, 115, 116, 117, 118, 119, 120, 121, 122, 123, 124, 21, 125, 47, 126, 127, 49, 128, 129, 130, 131, 132, 133, 299, 300, 301, 302, 254, 255, 256, 257, 303, 304, 305, 306, 159, 160, 161, 265, 266, 267, 268, 48, 141, 142, 143, 144, 705, 706, 707, 708, 709, 710, 711, 732, 733, 734, 735, 736, 737, 738, 739, 740, 741, 742, 743, 744, 745, 746, 747, 748, 749, 750, 751, 752] (by decide +kernel) (by decide +kernel)) (goodIn_sub (fun _ h => List.mem_append_right _ h) (by decide +kernel))) (goodIn_sub (fun _ h => List.mem_append_left _ (List.mem_append_right _ h)) (by decide +kernel))
set_option maxRecDepth 20000 in
theorem gL_law_L_prove : GoodIn wsL_law (va_wsS RL 91 yL_prove wsL_prove) := goodIn_app (goodIn_of _ (by decide +kernel)) ggL_law_L_prove
set_option maxRecDepth 20000 in
theorem ggL_law_X5_prove : GoodIn wsL_law wsX5_prove := goodIn_r _ [310, 273, 274, 275, 5, 276, 63, 189, 190, 191, 311, 312, 313, 314, 315, 316, 317, 192, 193, 194, 195, 196, 197, 198, 199, 200, 201, 64, 318, 319, 320, 321, 712, 713, 714, 715, 716, 717, 718, 719, 720, 721, 722, 723, 724, 725, 726, 727, 728, 729, 730, 731] (by decide +kernel) (by decide +kernel)
set_option maxRecDepth 20000 in
theorem gL_law_X5_prove : GoodIn wsL_law (wsV RL 93 RX5 yX5_prove wsX5_prove) := goodIn_app (goodIn_of _ (by decide +kernel)) ggL_law_X5_prove
set_option maxRecDepth 20000 in
theorem ggL_law_L_leave : GoodIn wsL_law wsL_leave := goodIn_ca (goodIn_ca (goodIn_r _ [324, 227, 79, 325, 326, 327, 2, 328, 232, 233, 86, 87, 17, 234, 235, 236, 16, 237, 102, 298, 246, 247, 248, 103, 108, 249, 89, 90, 91, 92, 93, 18, 94, 95, 96, 97, 98, 99, 100, 101, 35, 104, 105, 106, 107, 109, 37, 110, 38, 111, 39, 40, 41, 43, 112, 113, 114, 115, 116, 117, 118, 119, 120, 121, 122, 123, 124, 21, 125, 47, 126, 127, 49, 128, 129, 130, 131, 132, 133, 329, 330, 331, 332, 182, 149, 150, 151, 152, 153, 154, 705, 706, 707, 708, 709, 710, 711, 732, 733, 734, 735, 736, 737, 738, 739, 740, 741, 742, 743, 744, 745, 746, 747, 748, 749, 750, 751, 752] (by decide +kernel) (by decide +kernel)) (goodIn_sub (fun _ h => List.mem_append_right _ h) (by decide +kernel))) (goodIn_sub (fun _ h => List.mem_append_left _ (List.mem_append_right _ h)) (by decide +kernel))
set_option maxRecDepth 20000 in
theorem gL_law_L_leave : GoodIn wsL_law (va_wsS RL 94 yL_leave wsL_leave) := goodIn_app (goodIn_of _ (by decide +kernel)) ggL_law_L_leave
set_option maxRecDepth 20000 in
theorem ggL_law_X5_leave : GoodIn wsL_law wsX5_leave := goodIn_r _ [336, 63, 273, 274, 275, 5, 276, 189, 190, 191, 314, 315, 316, 317, 192, 193, 194, 195, 196, 197, 198, 199, 200, 201, 64, 337, 338, 339, 340, 712, 713, 714, 715, 716, 717, 718, 719, 720, 721, 722, 723, 724, 725, 726, 727, 728, 729, 730, 731] (by decide +kernel) (by decide +kernel)
set_option maxRecDepth 20000 in
theorem gL_law_X5_leave : GoodIn wsL_law (wsV RL 97 RX5 yX5_leave wsX5_leave) := goodIn_app (goodIn_of _ (by decide +kernel)) ggL_law_X5_leave
set_option maxRecDepth 20000 in
theorem ggL_law_L_accuse : GoodIn wsL_law wsL_accuse := goodIn_ca (goodIn_ca (goodIn_r _ [343, 227, 79, 344, 345, 346, 2, 347, 232, 233, 86, 87, 17, 295, 296, 297, 89, 90, 91, 92, 93, 18, 94, 95, 96, 97, 98, 99, 100, 16, 101, 35, 102, 103, 104, 105, 106, 107, 108, 109, 37, 110, 38, 111, 39, 40, 41, 43, 112, 113, 114, 115, 116, 117, 118, 119, 120, 121, 122, 123, 124, 21, 125, 47, 126, 127, 49, 128, 129, 130, 131, 132, 133, 348, 349, 350, 351, 705, 706, 707, 708, 709, 710, 711, 732, 733, 734, 735, 736, 737, 738, 739, 740, 741, 742, 743, 744, 745, 746, 747, 748, 749, 750, 751, 752] (by decide +kernel) (by decide +kernel)) (goodIn_sub (fun _ h => List.mem_append_right _ h) (by decide +kernel))) (goodIn_sub (fun _ h => List.mem_append_left _ (List.mem_append_right _ h)) (by decide +kernel))
set_option maxRecDepth 20000 in
theorem gL_law_L_accuse : GoodIn wsL_law (va_wsS RL 98 yL_accuse wsL_accuse) := goodIn_app (goodIn_of _ (by decide +kernel)) ggL_law_L_accuse
set_option maxRecDepth 20000 in
theorem ggL_law_X5_accuse : GoodIn wsL_law wsX5_accuse := goodIn_r _ [355, 63, 311, 312, 5, 313, 189, 190, 191, 192, 193, 194, 195, 196, 197, 198, 199, 200, 201, 64, 712, 713, 714, 715, 716, 717, 718, 719, 720, 721, 722, 723, 724, 725, 726, 727, 728, 729, 730, 731] (by decide +kernel) (by decide +kernel)
set_option maxRecDepth 20000 in
theorem gL_law_X5_accuse : GoodIn wsL_law (wsV RL 100 RX5 yX5_accuse wsX5_accuse) := goodIn_app (goodIn_of _ (by decide +kernel)) ggL_law_X5_accuse
set_option maxRecDepth 20000 in
theorem ggL_law_L_guest : GoodIn wsL_law wsL_guest := goodIn_ca (goodIn_ca (goodIn_r _ [358, 227, 78, 359, 360, 361, 2, 362, 232, 233, 84, 85, 17, 234, 235, 236, 16, 237, 102, 363, 364, 365, 366, 108, 38, 43, 103, 155, 156, 157, 158, 367, 368, 369, 370, 111, 39, 371, 372, 373, 21, 374, 127, 49, 145, 146, 147, 375, 376, 377, 378, 128, 379, 380, 381, 382, 262, 263, 264, 254, 255, 256, 257, 37, 705, 706, 707, 708, 709, 710, 711, 732, 733, 734, 735, 736, 737, 738, 739, 740, 741, 742, 743, 744, 745, 746, 747, 748, 749, 750, 751, 752] (by decide +kernel) (by decide +kernel)) (goodIn_sub (fun _ h => List.mem_append_right _ h) (by decide +kernel))) (goodIn_sub (fun _ h => List.mem_append_left _ (List.mem_append_left _ (List.mem_append_right _ h))) (by decide +kernel))
set_option maxRecDepth 20000 in
theorem gL_law_L_guest : GoodIn wsL_law (va_wsS RL 101 yL_guest wsL_guest) := goodIn_app (goodIn_of _ (by decide +kernel)) ggL_law_L_guest
set_option maxRecDepth 20000 in
theorem ggL_law_X5_guest : GoodIn wsL_law wsX5_guest := goodIn_r _ [386, 273, 274, 275, 5, 276, 63, 189, 190, 191, 192, 193, 194, 195, 196, 387, 388, 389, 390, 391, 66, 67, 71, 68, 69, 70, 72, 217, 218, 219, 392, 393, 394, 395, 396, 397, 398, 399, 73, 400, 401, 402, 403, 404, 405, 406, 407, 712, 713, 714, 715, 716, 717, 718, 719, 720, 721, 722, 723, 724, 725, 726, 727, 728, 729, 730, 731] (by decide +kernel) (by decide +kernel)
set_option maxRecDepth 20000 in
theorem gL_law_X5_guest : GoodIn wsL_law (wsV RL 103 RX5 yX5_guest wsX5_guest) := goodIn_app (goodIn_of _ (by decide +kernel)) ggL_law_X5_guest
set_option maxRecDepth 20000 in
theorem ggL_law_L_value : GoodIn wsL_law wsL_value := goodIn_ca (goodIn_r _ [410, 78, 411, 412, 413, 2, 414, 84, 85, 17, 415, 416, 417, 16, 418, 102, 103, 111, 110, 105, 106, 107, 35, 108, 104, 182, 149, 150, 151, 152, 153, 154, 705, 706, 707, 708, 709, 710, 711, 732, 733, 734, 735, 736, 737, 738, 739, 740, 741, 742, 743, 744, 745, 746, 747, 748] (by decide +kernel) (by decide +kernel)) (goodIn_sub (fun _ h => List.mem_append_left _ (List.mem_append_left _ (List.mem_append_right _ h))) (by decide +kernel))
set_option maxRecDepth 20000 in
theorem gL_law_L_value : GoodIn wsL_law (va_wsS RL 104 yL_value wsL_value) := goodIn_app (goodIn_of _ (by decide +kernel)) ggL_law_L_value
set_option maxRecDepth 20000 in
theorem ggL_law_X5_value : GoodIn wsL_law wsX5_value := goodIn_r _ [422, 189, 190, 5, 191, 192, 193, 194, 195, 196, 423, 424, 425, 426, 63, 337, 338, 339, 340, 712, 713, 714, 715, 716, 717, 718, 719, 720, 721, 722, 723, 724, 725, 726, 727, 728, 729, 730, 731] (by decide +kernel) (by decide +kernel)
set_option maxRecDepth 20000 in
theorem gL_law_X5_value : GoodIn wsL_law (wsV RL 106 RX5 yX5_value wsX5_value) := goodIn_app (goodIn_of _ (by decide +kernel)) ggL_law_X5_value
set_option maxRecDepth 20000 in
theorem ggL_law_L_question : GoodIn wsL_law wsL_question := goodIn_ca (goodIn_ca (goodIn_r _ [429, 227, 78, 430, 431, 432, 2, 433, 232, 233, 84, 85, 17, 434, 435, 436, 16, 437, 39, 40, 41, 705, 706, 707, 708, 709, 710, 711, 732, 733, 734, 735, 736, 737, 738, 739, 740, 741, 742, 743, 744, 745, 746, 747, 748] (by decide +kernel) (by decide +kernel)) (goodIn_sub (fun _ h => List.mem_append_right _ h) (by decide +kernel))) (goodIn_sub (fun _ h => List.mem_append_left _ (List.mem_append_left _ (List.mem_append_right _ h))) (by decide +kernel))
set_option maxRecDepth 20000 in
theorem gL_law_L_question : GoodIn wsL_law (va_wsS RL 107 yL_question wsL_question) := goodIn_app (goodIn_of _ (by decide +kernel)) ggL_law_L_question
set_option maxRecDepth 20000 in
theorem ggL_law_X5_question : GoodIn wsL_law wsX5_question := goodIn_r _ [441, 63, 189, 190, 5, 191, 192, 193, 194, 195, 196, 712, 713, 714, 715, 716, 717, 718, 719, 720, 721, 722, 723, 724, 725, 726, 727, 728, 729, 730, 731] (by decide +kernel) (by decide +kernel)
set_option maxRecDepth 20000 in
theorem gL_law_X5_question : GoodIn wsL_law (wsV RL 109 RX5 yX5_question wsX5_question) := goodIn_app (goodIn_of _ (by decide +kernel)) ggL_law_X5_question
set_option maxRecDepth 20000 in
theorem ggL_law_X4_deals : GoodIn wsL_law wsX4_deals := goodIn_r _ [445, 17, 705, 706, 707, 708, 709, 710, 711, 732, 733, 734, 735, 736, 737, 738, 739, 740, 741, 742, 743, 744, 745, 746, 747, 748, 749, 750, 751, 752] (by decide +kernel) (by decide +kernel)
set_option maxRecDepth 20000 in
theorem gL_law_X4_deals : GoodIn wsL_law (wsV RL 110 RX4 yX4_deals wsX4_deals) := goodIn_app (goodIn_of _ (by decide +kernel)) ggL_law_X4_deals
set_option maxRecDepth 20000 in
theorem ggL_law_X5_deals_ : GoodIn wsL_law wsX5_deals_ := goodIn_r _ [449, 196, 391, 387, 388, 389, 5, 390, 66, 67, 71, 68, 69, 70, 63, 72, 217, 218, 219, 392, 393, 394, 395, 396, 397, 398, 399, 73, 400, 401, 402, 403, 712, 713, 714, 715, 716, 717, 718, 719, 720, 721, 722, 723, 724, 725, 726, 727, 728, 729, 730, 731] (by decide +kernel) (by decide +kernel)
set_option maxRecDepth 20000 in
theorem gL_law_X5_deals_ : GoodIn wsL_law (wsV RL 113 RX5 yX5_deals_ wsX5_deals_) := goodIn_app (goodIn_of _ (by decide +kernel)) ggL_law_X5_deals_
set_option maxRecDepth 20000 in
theorem ggL_law_L_dealsWith : GoodIn wsL_law wsL_dealsWith := goodIn_ca (goodIn_r _ [452, 227, 453, 454, 455, 2, 456, 232, 233, 17, 295, 296, 297, 457, 458, 459, 21, 460, 47, 159, 160, 161, 129, 130, 131, 132, 127, 133, 115, 116, 117, 705, 706, 707, 708, 709, 710, 711, 732, 733, 734, 735, 736, 737, 738, 739, 740, 741, 742, 743, 744, 745, 746, 747, 748, 749, 750, 751, 752] (by decide +kernel) (by decide +kernel)) (goodIn_sub (fun _ h => List.mem_append_right _ h) (by decide +kernel))
set_option maxRecDepth 20000 in
theorem gL_law_L_dealsWith : GoodIn wsL_law (va_wsS RL 114 yL_dealsWith wsL_dealsWith) := goodIn_app (goodIn_of _ (by decide +kernel)) ggL_law_L_dealsWith
set_option maxRecDepth 20000 in
theorem ggL_law_X5_dealsWith : GoodIn wsL_law wsX5_dealsWith := goodIn_r _ [464, 66, 311, 312, 5, 313, 189, 190, 191, 192, 193, 194, 195, 196, 387, 388, 389, 390, 391, 67, 71, 68, 69, 70, 63, 72, 217, 218, 219, 392, 393, 394, 395, 396, 397, 398, 399, 73, 400, 401, 402, 403, 712, 713, 714, 715, 716, 717, 718, 719, 720, 721, 722, 723, 724, 725, 726, 727, 728, 729, 730, 731] (by decide +kernel) (by decide +kernel)
set_option maxRecDepth 20000 in
theorem gL_law_X5_dealsWith : GoodIn wsL_law (wsV RL 116 RX5 yX5_dealsWith wsX5_dealsWith) := goodIn_app (goodIn_of _ (by decide +kernel)) ggL_law_X5_dealsWith
set_option maxRecDepth 20000 in
theorem ggL_law_L_dealsHeld : GoodIn wsL_law wsL_dealsHeld := goodIn_ca (goodIn_r _ [467, 227, 468, 469, 470, 2, 471, 232, 233, 17, 234, 235, 236, 16, 237, 102, 295, 296, 297, 457, 458, 459, 21, 460, 47, 159, 160, 161, 129, 130, 131, 132, 127, 133, 115, 116, 117, 705, 706, 707, 708, 709, 710, 711, 732, 733, 734, 735, 736, 737, 738, 739, 740, 741, 742, 743, 744, 745, 746, 747, 748, 749, 750, 751, 752] (by decide +kernel) (by decide +kernel)) (goodIn_sub (fun _ h => List.mem_append_right _ h) (by decide +kernel))
set_option maxRecDepth 20000 in
theorem gL_law_L_dealsHeld : GoodIn wsL_law (va_wsS RL 117 yL_dealsHeld wsL_dealsHeld) := goodIn_app (goodIn_of _ (by decide +kernel)) ggL_law_L_dealsHeld
set_option maxRecDepth 20000 in
theorem ggL_law_X5_dealsHeld : GoodIn wsL_law wsX5_dealsHeld := goodIn_r _ [475, 67, 273, 274, 275, 5, 276, 63, 189, 190, 191, 311, 312, 313, 192, 193, 194, 195, 196, 387, 388, 389, 390, 391, 66, 71, 68, 69, 70, 72, 217, 218, 219, 392, 393, 394, 395, 396, 397, 398, 399, 73, 400, 401, 402, 403, 712, 713, 714, 715, 716, 717, 718, 719, 720, 721, 722, 723, 724, 725, 726, 727, 728, 729, 730, 731] (by decide +kernel) (by decide +kernel)
set_option maxRecDepth 20000 in
theorem gL_law_X5_dealsHeld : GoodIn wsL_law (wsV RL 119 RX5 yX5_dealsHeld wsX5_dealsHeld) := goodIn_app (goodIn_of _ (by decide +kernel)) ggL_law_X5_dealsHeld
set_option maxRecDepth 20000 in
theorem ggL_law_X4_culprits : GoodIn wsL_law wsX4_culprits := goodIn_r _ [479, 17, 480, 376, 377, 21, 378, 128, 145, 146, 147, 705, 706, 707, 708, 709, 710, 711, 732, 733, 734, 735, 736, 737, 738, 739, 740, 741, 742, 743, 744, 745, 746, 747, 748, 749, 750, 751, 752] (by decide +kernel) (by decide +kernel)
set_option maxRecDepth 20000 in
theorem gL_law_X4_culprits : GoodIn wsL_law (wsV RL 120 RX4 yX4_culprits wsX4_culprits) := goodIn_app (goodIn_of _ (by decide +kernel)) ggL_law_X4_culprits
set_option maxRecDepth 20000 in
theorem ggL_law_X5_culprits : GoodIn wsL_law wsX5_culprits := goodIn_r _ [484, 196, 66, 387, 388, 389, 5, 390, 391, 67, 71, 68, 69, 70, 63, 72, 217, 218, 219, 392, 393, 394, 395, 396, 397, 398, 399, 73, 400, 401, 402, 403, 712, 713, 714, 715, 716, 717, 718, 719, 720, 721, 722, 723, 724, 725, 726, 727, 728, 729, 730, 731] (by decide +kernel) (by decide +kernel)
set_option maxRecDepth 20000 in
theorem gL_law_X5_culprits : GoodIn wsL_law (wsV RL 123 RX5 yX5_culprits wsX5_culprits) := goodIn_app (goodIn_of _ (by decide +kernel)) ggL_law_X5_culprits
set_option maxRecDepth 20000 in
theorem ggL_law_X4_likeliest : GoodIn wsL_law wsX4_likeliest := goodIn_r _ [488, 17, 457, 458, 459, 21, 460, 47, 159, 160, 161, 129, 130, 131, 132, 127, 133, 115, 116, 117, 705, 706, 707, 708, 709, 710, 711, 732, 733, 734, 735, 736, 737, 738, 739, 740, 741, 742, 743, 744, 745, 746, 747, 748, 749, 750, 751, 752] (by decide +kernel) (by decide +kernel)
set_option maxRecDepth 20000 in
theorem gL_law_X4_likeliest : GoodIn wsL_law (wsV RL 124 RX4 yX4_likeliest wsX4_likeliest) := goodIn_app (goodIn_of _ (by decide +kernel)) ggL_law_X4_likeliest
set_option maxRecDepth 20000 in
theorem ggL_law_X5_likeliest : GoodIn wsL_law wsX5_likeliest := goodIn_r _ [492, 196, 66, 63, 387, 388, 389, 5, 390, 391, 67, 71, 68, 69, 70, 72, 217, 218, 219, 392, 393, 394, 395, 396, 397, 398, 399, 73, 400, 401, 402, 403, 712, 713, 714, 715, 716, 717, 718, 719, 720, 721, 722, 723, 724, 725, 726, 727, 728, 729, 730, 731] (by decide +kernel) (by decide +kernel)
set_option maxRecDepth 20000 in
theorem gL_law_X5_likeliest : GoodIn wsL_law (wsV RL 127 RX5 yX5_likeliest wsX5_likeliest) := goodIn_app (goodIn_of _ (by decide +kernel)) ggL_law_X5_likeliest
set_option maxRecDepth 20000 in
theorem ggL_law_L_chance : GoodIn wsL_law wsL_chance := goodIn_ca (goodIn_r _ [495, 227, 496, 497, 498, 2, 499, 232, 233, 17, 295, 296, 297, 457, 458, 459, 21, 460, 47, 159, 160, 161, 129, 130, 131, 132, 127, 133, 115, 116, 117, 500, 501, 502, 705, 706, 707, 708, 709, 710, 711, 732, 733, 734, 735, 736, 737, 738, 739, 740, 741, 742, 743, 744, 745, 746, 747, 748, 749, 750, 751, 752] (by decide +kernel) (by decide +kernel)) (goodIn_sub (fun _ h => List.mem_append_right _ h) (by decide +kernel))
set_option maxRecDepth 20000 in
theorem gL_law_L_chance : GoodIn wsL_law (va_wsS RL 128 yL_chance wsL_chance) := goodIn_app (goodIn_of _ (by decide +kernel)) ggL_law_L_chance
set_option maxRecDepth 20000 in
theorem ggL_law_X5_chance : GoodIn wsL_law wsX5_chance := goodIn_r _ [506, 391, 66, 311, 312, 5, 313, 189, 190, 191, 192, 193, 194, 195, 196, 387, 388, 389, 390, 67, 71, 68, 69, 70, 63, 72, 217, 218, 219, 392, 393, 394, 395, 396, 397, 398, 399, 73, 400, 401, 402, 403, 712, 713, 714, 715, 716, 717, 718, 719, 720, 721, 722, 723, 724, 725, 726, 727, 728, 729, 730, 731] (by decide +kernel) (by decide +kernel)
set_option maxRecDepth 20000 in
theorem gL_law_X5_chance : GoodIn wsL_law (wsV RL 131 RX5 yX5_chance wsX5_chance) := goodIn_app (goodIn_of _ (by decide +kernel)) ggL_law_X5_chance
set_option maxRecDepth 20000 in
theorem ggL_law_L_dealsIf : GoodIn wsL_law wsL_dealsIf := goodIn_ca (goodIn_ca (goodIn_r _ [509, 227, 78, 510, 511, 512, 2, 513, 232, 233, 84, 85, 17, 27, 234, 235, 236, 16, 237, 102, 238, 239, 240, 514, 515, 516, 26, 517, 518, 53, 519, 263, 21, 264, 130, 131, 132, 127, 47, 133, 115, 116, 117, 520, 146, 147, 521, 522, 523, 524, 525, 149, 150, 151, 152, 153, 154, 705, 706, 707, 708, 709, 710, 711, 732, 733, 734, 735, 736, 737, 738, 739, 740, 741, 742, 743, 744, 745, 746, 747, 748, 753, 754, 755, 749, 750, 751, 752] (by decide +kernel) (by decide +kernel)) (goodIn_sub (fun _ h => List.mem_append_right _ h) (by decide +kernel))) (goodIn_sub (fun _ h => List.mem_append_left _ (List.mem_append_left _ (List.mem_append_right _ h))) (by decide +kernel))
set_option maxRecDepth 20000 in
theorem gL_law_L_dealsIf : GoodIn wsL_law (va_wsS RL 132 yL_dealsIf wsL_dealsIf) := goodIn_app (goodIn_of _ (by decide +kernel)) ggL_law_L_dealsIf
set_option maxRecDepth 20000 in
theorem ggL_law_X5_dealsIf : GoodIn wsL_law wsX5_dealsIf := goodIn_r _ [529, 273, 274, 275, 5, 276, 63, 189, 190, 191, 277, 278, 279, 192, 193, 194, 195, 196, 387, 388, 389, 390, 391, 66, 67, 71, 68, 69, 70, 72, 217, 218, 219, 392, 393, 394, 395, 396, 397, 398, 399, 73, 400, 401, 402, 403, 530, 531, 532, 533, 712, 713, 714, 715, 716, 717, 718, 719, 720, 721, 722, 723, 724, 725, 726, 727, 728, 729, 730, 731] (by decide +kernel) (by decide +kernel)
set_option maxRecDepth 20000 in
theorem gL_law_X5_dealsIf : GoodIn wsL_law (wsV RL 135 RX5 yX5_dealsIf wsX5_dealsIf) := goodIn_app (goodIn_of _ (by decide +kernel)) ggL_law_X5_dealsIf
set_option maxRecDepth 20000 in
theorem ggL_law_L_worst : GoodIn wsL_law wsL_worst := goodIn_ca (goodIn_ca (goodIn_r _ [536, 227, 78, 537, 538, 539, 2, 540, 232, 233, 84, 85, 17, 27, 234, 235, 236, 16, 237, 102, 238, 239, 240, 514, 515, 516, 26, 517, 518, 53, 519, 263, 21, 264, 130, 131, 132, 127, 47, 133, 115, 116, 117, 520, 146, 147, 541, 542, 543, 544, 54, 545, 546, 547, 525, 149, 150, 151, 152, 153, 154, 705, 706, 707, 708, 709, 710, 711, 732, 733, 734, 735, 736, 737, 738, 739, 740, 741, 742, 743, 744, 745, 746, 747, 748, 753, 754, 755, 749, 750, 751, 752] (by decide +kernel) (by decide +kernel)) (goodIn_sub (fun _ h => List.mem_append_right _ h) (by decide +kernel))) (goodIn_sub (fun _ h => List.mem_append_left _ (List.mem_append_left _ (List.mem_append_right _ h))) (by decide +kernel))
set_option maxRecDepth 20000 in
theorem gL_law_L_worst : GoodIn wsL_law (va_wsS RL 136 yL_worst wsL_worst) := goodIn_app (goodIn_of _ (by decide +kernel)) ggL_law_L_worst
set_option maxRecDepth 20000 in
theorem ggL_law_X5_worst : GoodIn wsL_law wsX5_worst := goodIn_r _ [551, 273, 274, 275, 5, 276, 63, 189, 190, 191, 277, 278, 279, 192, 193, 194, 195, 196, 387, 388, 389, 390, 391, 66, 67, 71, 68, 69, 70, 72, 217, 218, 219, 392, 393, 394, 395, 396, 397, 398, 399, 73, 400, 401, 402, 403, 552, 553, 554, 555, 530, 531, 532, 533, 712, 713, 714, 715, 716, 717, 718, 719, 720, 721, 722, 723, 724, 725, 726, 727, 728, 729, 730, 731] (by decide +kernel) (by decide +kernel)
set_option maxRecDepth 20000 in
theorem gL_law_X5_worst : GoodIn wsL_law (wsV RL 138 RX5 yX5_worst wsX5_worst) := goodIn_app (goodIn_of _ (by decide +kernel)) ggL_law_X5_worst
set_option maxRecDepth 20000 in
theorem ggL_law_L_bestCards : GoodIn wsL_law wsL_bestCards := goodIn_ca (goodIn_r _ [558, 227, 559, 560, 561, 2, 562, 232, 233, 17, 27, 234, 235, 236, 16, 237, 102, 514, 515, 516, 26, 517, 518, 53, 519, 263, 21, 264, 130, 131, 132, 127, 47, 133, 115, 116, 117, 520, 146, 147, 563, 564, 565, 566, 567, 542, 543, 544, 54, 545, 546, 547, 525, 149, 150, 151, 152, 153, 154, 705, 706, 707, 708, 709, 710, 711, 732, 733, 734, 735, 736, 737, 738, 739, 740, 741, 742, 743, 744, 745, 746, 747, 748, 753, 754, 755, 749, 750, 751, 752] (by decide +kernel) (by decide +kernel)) (goodIn_sub (fun _ h => List.mem_append_right _ h) (by decide +kernel))
set_option maxRecDepth 20000 in
theorem gL_law_L_bestCards : GoodIn wsL_law (va_wsS RL 139 yL_bestCards wsL_bestCards) := goodIn_app (goodIn_of _ (by decide +kernel)) ggL_law_L_bestCards
set_option maxRecDepth 20000 in
theorem ggL_law_X5_bestCards : GoodIn wsL_law wsX5_bestCards := goodIn_r _ [571, 273, 274, 275, 5, 276, 63, 189, 190, 191, 192, 193, 194, 195, 196, 387, 388, 389, 390, 391, 66, 67, 71, 68, 69, 70, 72, 217, 218, 219, 392, 393, 394, 395, 396, 397, 398, 399, 73, 400, 401, 402, 403, 552, 553, 554, 555, 530, 531, 532, 533, 712, 713, 714, 715, 716, 717, 718, 719, 720, 721, 722, 723, 724, 725, 726, 727, 728, 729, 730, 731] (by decide +kernel) (by decide +kernel)
set_option maxRecDepth 20000 in
theorem gL_law_X5_bestCards : GoodIn wsL_law (wsV RL 141 RX5 yX5_bestCards wsX5_bestCards) := goodIn_app (goodIn_of _ (by decide +kernel)) ggL_law_X5_bestCards
set_option maxRecDepth 20000 in
theorem ggL_law_L_leftByProof : GoodIn wsL_law wsL_leftByProof := goodIn_ca (goodIn_r _ [574, 227, 575, 576, 577, 2, 578, 232, 233, 17, 234, 235, 236, 16, 237, 102, 295, 296, 297, 457, 458, 459, 21, 460, 47, 159, 160, 161, 129, 130, 131, 132, 127, 133, 115, 116, 117, 500, 501, 502, 705, 706, 707, 708, 709, 710, 711, 732, 733, 734, 735, 736, 737, 738, 739, 740, 741, 742, 743, 744, 745, 746, 747, 748, 749, 750, 751, 752] (by decide +kernel) (by decide +kernel)) (goodIn_sub (fun _ h => List.mem_append_right _ h) (by decide +kernel))
set_option maxRecDepth 20000 in
theorem gL_law_L_leftByProof : GoodIn wsL_law (va_wsS RL 142 yL_leftByProof wsL_leftByProof) := goodIn_app (goodIn_of _ (by decide +kernel)) ggL_law_L_leftByProof
set_option maxRecDepth 20000 in
theorem ggL_law_X5_leftByProof : GoodIn wsL_law wsX5_leftByProof := goodIn_r _ [582, 67, 391, 273, 274, 275, 5, 276, 63, 189, 190, 191, 311, 312, 313, 192, 193, 194, 195, 196, 387, 388, 389, 390, 66, 71, 68, 69, 70, 72, 217, 218, 219, 392, 393, 394, 395, 396, 397, 398, 399, 73, 400, 401, 402, 403, 712, 713, 714, 715, 716, 717, 718, 719, 720, 721, 722, 723, 724, 725, 726, 727, 728, 729, 730, 731] (by decide +kernel) (by decide +kernel)
set_option maxRecDepth 20000 in
theorem gL_law_X5_leftByProof : GoodIn wsL_law (wsV RL 145 RX5 yX5_leftByProof wsX5_leftByProof) := goodIn_app (goodIn_of _ (by decide +kernel)) ggL_law_X5_leftByProof
set_option maxRecDepth 20000 in
theorem ggL_law_L_append : GoodIn wsL_law wsL_append := goodIn_ca (goodIn_ca (goodIn_r _ [585, 78, 79, 586, 587, 588, 2, 589, 84, 85, 86, 87, 31, 590, 591, 592, 30, 593, 594, 58, 705, 706, 707, 708, 709, 710, 711, 756, 757, 758, 759, 760, 761, 762] (by decide +kernel) (by decide +kernel)) (goodIn_sub (fun _ h => List.mem_append_left _ (List.mem_append_left _ (List.mem_append_right _ h))) (by decide +kernel))) (goodIn_sub (fun _ h => List.mem_append_left _ (List.mem_append_right _ h)) (by decide +kernel))
set_option maxRecDepth 20000 in
theorem gL_law_L_append : GoodIn wsL_law (va_wsS RL 146 yL_append wsL_append) := goodIn_app (goodIn_of _ (by decide +kernel)) ggL_law_L_append
set_option maxRecDepth 20000 in
theorem ggL_law_X5_append : GoodIn wsL_law wsX5_append := goodIn_r _ [598, 599, 65, 189, 190, 5, 191, 192, 193, 194, 195, 196, 712, 713, 714, 715, 716, 717, 718, 719, 720, 721, 722, 723, 724, 725, 726, 727, 728, 729, 730, 731] (by decide +kernel) (by decide +kernel)
set_option maxRecDepth 20000 in
theorem gL_law_X5_append : GoodIn wsL_law (wsV RL 148 RX5 yX5_append wsX5_append) := goodIn_app (goodIn_of _ (by decide +kernel)) ggL_law_X5_append
set_option maxRecDepth 20000 in
theorem ggL_law_X4_clearText : GoodIn wsL_law wsX4_clearText := goodIn_r _ [603, 31, 705, 706, 707, 708, 709, 710, 711, 756, 757, 758, 759, 760, 761, 762] (by decide +kernel) (by decide +kernel)
set_option maxRecDepth 20000 in
theorem gL_law_X4_clearText : GoodIn wsL_law (wsV RL 149 RX4 yX4_clearText wsX4_clearText) := goodIn_app (goodIn_of _ (by decide +kernel)) ggL_law_X4_clearText
set_option maxRecDepth 20000 in
theorem ggL_law_X5_clearText : GoodIn wsL_law wsX5_clearText := goodIn_r _ [607, 196, 599, 712, 713, 714, 715, 716, 717, 718, 719, 720, 721, 722, 723, 724, 725, 726, 727, 728, 729, 730, 731] (by decide +kernel) (by decide +kernel)
set_option maxRecDepth 20000 in
theorem gL_law_X5_clearText : GoodIn wsL_law (wsV RL 152 RX5 yX5_clearText wsX5_clearText) := goodIn_app (goodIn_of _ (by decide +kernel)) ggL_law_X5_clearText
set_option maxRecDepth 20000 in
theorem ggL_law_X4_play : GoodIn wsL_law wsX4_play := goodIn_r _ [611, 31, 612, 613, 614, 30, 615, 616, 594, 617, 618, 619, 620, 621, 622, 623, 624, 625, 626, 58, 627, 628, 629, 630, 631, 632, 633, 634, 635, 636, 89, 90, 91, 2, 92, 93, 18, 17, 94, 95, 96, 97, 98, 99, 100, 16, 101, 35, 102, 103, 104, 105, 106, 107, 108, 109, 37, 110, 38, 111, 39, 40, 41, 43, 112, 113, 114, 115, 116, 117, 118, 119, 120, 121, 122, 123, 124, 21, 125, 47, 126, 127, 49, 128, 129, 130, 131, 132, 133, 637, 638, 639, 640, 641, 642, 643, 644, 645, 241, 242, 243, 244, 245, 246, 247, 248, 249, 235, 236, 237, 250, 251, 252, 253, 254, 255, 256, 257, 182, 149, 150, 151, 152, 153, 154, 155, 156, 157, 158, 258, 259, 260, 261, 262, 263, 264, 265, 266, 267, 268, 48, 145, 146, 147, 148, 141, 142, 143, 144, 298, 299, 300, 301, 302, 303, 304, 305, 306, 159, 160, 161, 329, 330, 331, 332, 705, 706, 707, 708, 709, 710, 711, 756, 757, 758, 759, 760, 761, 762, 732, 733, 734, 735, 736, 737, 738, 739, 740, 741, 742, 743, 744, 745, 746, 747, 748, 749, 750, 751, 752] (by decide +kernel) (by decide +kernel)
set_option maxRecDepth 20000 in
theorem gL_law_X4_play : GoodIn wsL_law (wsV RL 153 RX4 yX4_play wsX4_play) := goodIn_app (goodIn_of _ (by decide +kernel)) ggL_law_X4_play
set_option maxRecDepth 20000 in
theorem ggL_law_X5_play : GoodIn wsL_law wsX5_play := goodIn_r _ [649, 196, 650, 599, 651, 652, 653, 5, 654, 65, 655, 656, 657, 658, 659, 660, 661, 189, 190, 191, 662, 663, 664, 665, 197, 198, 199, 200, 201, 64, 63, 666, 667, 668, 669, 273, 274, 275, 276, 314, 315, 316, 317, 670, 671, 672, 318, 319, 320, 321, 280, 281, 282, 283, 284, 285, 286, 287, 217, 218, 219, 712, 713, 714, 715, 716, 717, 718, 719, 720, 721, 722, 723, 724, 725, 726, 727, 728, 729, 730, 731] (by decide +kernel) (by decide +kernel)
set_option maxRecDepth 20000 in
theorem gL_law_X5_play : GoodIn wsL_law (wsV RL 156 RX5 yX5_play wsX5_play) := goodIn_app (goodIn_of _ (by decide +kernel)) ggL_law_X5_play
set_option maxRecDepth 20000 in
theorem ggL_law_L_undo : GoodIn wsL_law wsL_undo := goodIn_ca (goodIn_r _ [675, 79, 676, 677, 678, 2, 679, 86, 87, 93, 680, 681, 682, 683, 17, 94, 95, 96, 97, 18, 98, 99, 100, 16, 101, 35, 102, 103, 104, 105, 106, 107, 108, 109, 37, 110, 38, 111, 39, 40, 41, 43, 112, 113, 114, 115, 116, 117, 118, 119, 120, 121, 122, 123, 124, 21, 125, 47, 126, 127, 49, 128, 129, 130, 131, 132, 133, 705, 706, 707, 708, 709, 710, 711, 732, 733, 734, 735, 736, 737, 738, 739, 740, 741, 742, 743, 744, 745, 746, 747, 748, 749, 750, 751, 752] (by decide +kernel) (by decide +kernel)) (goodIn_sub (fun _ h => List.mem_append_left _ (List.mem_append_right _ h)) (by decide +kernel))
set_option maxRecDepth 20000 in
theorem gL_law_L_undo : GoodIn wsL_law (va_wsS RL 157 yL_undo wsL_undo) := goodIn_app (goodIn_of _ (by decide +kernel)) ggL_law_L_undo
set_option maxRecDepth 20000 in
theorem ggL_law_X5_undo : GoodIn wsL_law wsX5_undo := goodIn_r _ [687, 201, 63, 64, 192, 193, 194, 5, 195, 196, 712, 713, 714, 715, 716, 717, 718, 719, 720, 721, 722, 723, 724, 725, 726, 727, 728, 729, 730, 731] (by decide +kernel) (by decide +kernel)
set_option maxRecDepth 20000 in
theorem gL_law_X5_undo : GoodIn wsL_law (wsV RL 160 RX5 yX5_undo wsX5_undo) := goodIn_app (goodIn_of _ (by decide +kernel)) ggL_law_X5_undo
set_option maxRecDepth 20000 in
theorem ggL_law_X4_digest : GoodIn wsL_law wsX4_digest := goodIn_r _ [691, 692, 693, 31, 17, 93, 415, 416, 417, 16, 418, 102, 103, 111, 110, 105, 106, 107, 35, 108, 104, 182, 149, 150, 151, 152, 153, 154, 363, 364, 365, 366, 38, 43, 155, 2, 156, 157, 158, 367, 368, 369, 370, 39, 371, 372, 373, 21, 374, 127, 49, 145, 146, 147, 375, 376, 377, 378, 128, 379, 380, 381, 382, 262, 263, 264, 254, 255, 256, 257, 37, 434, 435, 436, 437, 40, 41, 457, 458, 459, 460, 47, 159, 160, 161, 129, 130, 131, 132, 133, 115, 116, 117, 705, 706, 707, 708, 709, 710, 711, 756, 757, 758, 759, 760, 761, 762, 732, 733, 734, 735, 736, 737, 738, 739, 740, 741, 742, 743, 744, 745, 746, 747, 748, 749, 750, 751, 752] (by decide +kernel) (by decide +kernel)
set_option maxRecDepth 20000 in
theorem gL_law_X4_digest : GoodIn wsL_law (wsV RL 161 RX4 yX4_digest wsX4_digest) := goodIn_app (goodIn_of _ (by decide +kernel)) ggL_law_X4_digest
set_option maxRecDepth 20000 in
theorem ggL_law_X5_digest : GoodIn wsL_law wsX5_digest := goodIn_r _ [697, 196, 698, 699, 599, 63, 391, 66, 201, 387, 388, 389, 5, 390, 67, 71, 68, 69, 70, 72, 217, 218, 219, 392, 393, 394, 395, 396, 397, 398, 399, 73, 400, 401, 402, 403, 700, 701, 702, 703, 704, 423, 424, 425, 426, 337, 338, 339, 340, 404, 405, 406, 407, 712, 713, 714, 715, 716, 717, 718, 719, 720, 721, 722, 723, 724, 725, 726, 727, 728, 729, 730, 731] (by decide +kernel) (by decide +kernel)
set_option maxRecDepth 20000 in
theorem gL_law_X5_digest : GoodIn wsL_law (wsV RL 165 RX5 yX5_digest wsX5_digest) := goodIn_app (goodIn_of _ (by decide +kernel)) ggL_law_X5_digest
