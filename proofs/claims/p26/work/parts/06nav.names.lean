set_option maxRecDepth 20000 in
theorem ggL_isBest_L_bestCards_x0 : GoodIn wsL_isBest wsX00 := goodIn_r _ [109, 110, 111, 112] (by decide +kernel) (by decide +kernel)
set_option maxRecDepth 20000 in
theorem ggL_isBest_L_bestCards : GoodIn wsL_isBest wsL_bestCards := goodIn_ca (goodIn_cc ggL_isBest_L_bestCards_h (goodIn_app (goodIn_app (goodIn_app (goodIn_app (goodIn_app ggL_isBest_L_bestCards_r1 (goodIn_app ggL_isBest_L_bestCards_r2 (ggL_isBest_L_bestCards_r3))) ggL_isBest_L_bestCards_x4) ggL_isBest_L_bestCards_x1) ggL_isBest_L_bestCards_x2) ggL_isBest_L_bestCards_x0)) (goodIn_sub (fun _ h => List.mem_cons_of_mem _ (List.mem_append_left _ (List.mem_append_right _ h))) (by decide +kernel))
set_option maxRecDepth 20000 in
theorem gL_isBest_L_bestCards : GoodIn wsL_isBest (va_wsS RL 120 yL_bestCards wsL_bestCards) := goodIn_app (goodIn_of _ (by decide +kernel)) ggL_isBest_L_bestCards
set_option maxRecDepth 20000 in
theorem ggL_isBest_L_worst_h : GoodIn wsL_isBest [.codeWith yL_worst cL_worst 5 (some .int) [(0, 7, 10, 25), (0, 7, 15, 15)]] := goodIn_r _ [66] (by decide +kernel) (by decide +kernel)
set_option maxRecDepth 20000 in
theorem ggL_isBest_L_worst_r1 : GoodIn wsL_isBest wsL_worst_r1 := goodIn_r _ [5, 67, 6, 68, 69, 70, 71, 10, 72, 12, 13, 73, 74, 14, 15, 16, 17, 18, 19, 20, 21, 75, 76, 77] (by decide +kernel) (by decide +kernel)
set_option maxRecDepth 20000 in
theorem ggL_isBest_L_worst_r2 : GoodIn wsL_isBest wsL_worst_r2 := goodIn_r _ [22, 23, 24, 25, 26, 27, 28, 29, 30, 31, 32, 33, 34, 35, 36, 37, 38, 39, 40, 41, 42, 43, 44, 78] (by decide +kernel) (by decide +kernel)
set_option maxRecDepth 20000 in
theorem ggL_isBest_L_worst_r3 : GoodIn wsL_isBest wsL_worst_r3 := goodIn_r _ [50, 51, 52, 53, 54, 55, 56, 57, 58, 59, 60, 61, 62, 63] (by decide +kernel) (by decide +kernel)
set_option maxRecDepth 20000 in
theorem ggL_isBest_L_worst_x4 : GoodIn wsL_isBest wsX40 := goodIn_r _ [82, 83, 84, 85, 86, 87, 88] (by decide +kernel) (by decide +kernel)
set_option maxRecDepth 20000 in
theorem ggL_isBest_L_worst_x1 : GoodIn wsL_isBest wsX10 := goodIn_r _ [89, 90, 91, 92, 93, 94, 95, 96, 97, 98, 99, 100, 101, 102, 103, 104, 105] (by decide +kernel) (by decide +kernel)
set_option maxRecDepth 20000 in
theorem ggL_isBest_L_worst_x2 : GoodIn wsL_isBest wsX20 := goodIn_r _ [106, 107, 108] (by decide +kernel) (by decide +kernel)
set_option maxRecDepth 20000 in
theorem ggL_isBest_L_worst_x0 : GoodIn wsL_isBest wsX00 := goodIn_r _ [109, 110, 111, 112] (by decide +kernel) (by decide +kernel)
set_option maxRecDepth 20000 in
theorem ggL_isBest_L_worst : GoodIn wsL_isBest wsL_worst := goodIn_ca (goodIn_ca (goodIn_cc ggL_isBest_L_worst_h (goodIn_app (goodIn_app (goodIn_app (goodIn_app (goodIn_app ggL_isBest_L_worst_r1 (goodIn_app ggL_isBest_L_worst_r2 (ggL_isBest_L_worst_r3))) ggL_isBest_L_worst_x4) ggL_isBest_L_worst_x1) ggL_isBest_L_worst_x2) ggL_isBest_L_worst_x0)) (goodIn_sub (fun _ h => List.mem_cons_of_mem _ (List.mem_append_left _ (List.mem_append_right _ h))) (by decide +kernel))) (goodIn_sub (fun _ h => List.mem_cons_of_mem _ (List.mem_append_right _ h)) (by decide +kernel))
set_option maxRecDepth 20000 in
theorem gL_isBest_L_worst : GoodIn wsL_isBest (va_wsS RL 118 yL_worst wsL_worst) := goodIn_app (goodIn_of _ (by decide +kernel)) ggL_isBest_L_worst
set_option maxRecDepth 20000 in
theorem ggL_isBest_L_ones : GoodIn wsL_isBest wsL_ones := goodIn_r _ [81] (by decide +kernel) (by decide +kernel)
set_option maxRecDepth 20000 in
theorem gL_isBest_L_ones : GoodIn wsL_isBest (va_wsS RL 136 yL_ones wsL_ones) := goodIn_app (goodIn_of _ (by decide +kernel)) ggL_isBest_L_ones
theorem dL_isBest_0 : decode cL_isBest 0 = .ok (.aload_n 0, 1) := by decide +kernel
theorem dL_isBest_1 : decode cL_isBest 1 = .ok (.iload_n 1, 1) := by decide +kernel
theorem dL_isBest_2 : decode cL_isBest 2 = .ok (.invokestatic 120, 3) := by decide +kernel
theorem dL_isBest_5 : decode cL_isBest 5 = .ok (.istore_n 2, 1) := by decide +kernel
theorem dL_isBest_6 : decode cL_isBest 6 = .ok (.aload_n 0, 1) := by decide +kernel
theorem dL_isBest_7 : decode cL_isBest 7 = .ok (.iload_n 1, 1) := by decide +kernel
theorem dL_isBest_8 : decode cL_isBest 8 = .ok (.iload_n 2, 1) := by decide +kernel
theorem dL_isBest_9 : decode cL_isBest 9 = .ok (.invokestatic 118, 3) := by decide +kernel
theorem dL_isBest_12 : decode cL_isBest 12 = .ok (.istore_n 3, 1) := by decide +kernel
theorem dL_isBest_13 : decode cL_isBest 13 = .ok (.iload_n 2, 1) := by decide +kernel
theorem dL_isBest_14 : decode cL_isBest 14 = .ok (.invokestatic 136, 3) := by decide +kernel
theorem dL_isBest_17 : decode cL_isBest 17 = .ok (.iconst 1, 1) := by decide +kernel
theorem dL_isBest_18 : decode cL_isBest 18 = .ok (.if_icmp .eq 11, 3) := by decide +kernel
theorem dL_isBest_21 : decode cL_isBest 21 = .ok (.iload_n 2, 1) := by decide +kernel
theorem dL_isBest_22 : decode cL_isBest 22 = .ok (.invokestatic 136, 3) := by decide +kernel
theorem dL_isBest_25 : decode cL_isBest 25 = .ok (.iconst 2, 1) := by decide +kernel
theorem dL_isBest_26 : decode cL_isBest 26 = .ok (.if_icmp .ne 7, 3) := by decide +kernel
theorem dL_isBest_29 : decode cL_isBest 29 = .ok (.iconst 1, 1) := by decide +kernel
theorem dL_isBest_30 : decode cL_isBest 30 = .ok (.goto 4, 3) := by decide +kernel
theorem dL_isBest_33 : decode cL_isBest 33 = .ok (.iconst 0, 1) := by decide +kernel
theorem dL_isBest_34 : decode cL_isBest 34 = .ok (.istore 4, 2) := by decide +kernel
theorem dL_isBest_36 : decode cL_isBest 36 = .ok (.iconst 0, 1) := by decide +kernel
theorem dL_isBest_37 : decode cL_isBest 37 = .ok (.istore 5, 2) := by decide +kernel
theorem dL_isBest_39 : decode cL_isBest 39 = .ok (.iload 5, 2) := by decide +kernel
theorem dL_isBest_41 : decode cL_isBest 41 = .ok (.bipush 8, 2) := by decide +kernel
theorem dL_isBest_43 : decode cL_isBest 43 = .ok (.if_icmp .ge 79, 3) := by decide +kernel
theorem dL_isBest_46 : decode cL_isBest 46 = .ok (.iload 4, 2) := by decide +kernel
theorem dL_isBest_48 : decode cL_isBest 48 = .ok (.ifCond .eq 74, 3) := by decide +kernel
theorem dL_isBest_51 : decode cL_isBest 51 = .ok (.aload_n 0, 1) := by decide +kernel
theorem dL_isBest_52 : decode cL_isBest 52 = .ok (.iload_n 1, 1) := by decide +kernel
theorem dL_isBest_53 : decode cL_isBest 53 = .ok (.iconst 1, 1) := by decide +kernel
theorem dL_isBest_54 : decode cL_isBest 54 = .ok (.iload 5, 2) := by decide +kernel
theorem dL_isBest_56 : decode cL_isBest 56 = .ok (.ishl, 1) := by decide +kernel
theorem dL_isBest_57 : decode cL_isBest 57 = .ok (.invokestatic 118, 3) := by decide +kernel
theorem dL_isBest_60 : decode cL_isBest 60 = .ok (.istore 6, 2) := by decide +kernel
theorem dL_isBest_62 : decode cL_isBest 62 = .ok (.aload_n 0, 1) := by decide +kernel
theorem dL_isBest_63 : decode cL_isBest 63 = .ok (.iload_n 1, 1) := by decide +kernel
theorem dL_isBest_64 : decode cL_isBest 64 = .ok (.iconst 1, 1) := by decide +kernel
theorem dL_isBest_65 : decode cL_isBest 65 = .ok (.iload 5, 2) := by decide +kernel
theorem dL_isBest_67 : decode cL_isBest 67 = .ok (.ishl, 1) := by decide +kernel
theorem dL_isBest_68 : decode cL_isBest 68 = .ok (.iconst 1, 1) := by decide +kernel
theorem dL_isBest_69 : decode cL_isBest 69 = .ok (.iload 5, 2) := by decide +kernel
theorem dL_isBest_71 : decode cL_isBest 71 = .ok (.iconst 3, 1) := by decide +kernel
theorem dL_isBest_72 : decode cL_isBest 72 = .ok (.iadd, 1) := by decide +kernel
theorem dL_isBest_73 : decode cL_isBest 73 = .ok (.bipush 8, 2) := by decide +kernel
theorem dL_isBest_75 : decode cL_isBest 75 = .ok (.irem, 1) := by decide +kernel
theorem dL_isBest_76 : decode cL_isBest 76 = .ok (.ishl, 1) := by decide +kernel
theorem dL_isBest_77 : decode cL_isBest 77 = .ok (.ior, 1) := by decide +kernel
theorem dL_isBest_78 : decode cL_isBest 78 = .ok (.invokestatic 118, 3) := by decide +kernel
theorem dL_isBest_81 : decode cL_isBest 81 = .ok (.istore 7, 2) := by decide +kernel
theorem dL_isBest_83 : decode cL_isBest 83 = .ok (.iload 6, 2) := by decide +kernel
theorem dL_isBest_85 : decode cL_isBest 85 = .ok (.iload_n 3, 1) := by decide +kernel
theorem dL_isBest_86 : decode cL_isBest 86 = .ok (.if_icmp .lt 27, 3) := by decide +kernel
theorem dL_isBest_89 : decode cL_isBest 89 = .ok (.iload 6, 2) := by decide +kernel
theorem dL_isBest_91 : decode cL_isBest 91 = .ok (.iload_n 3, 1) := by decide +kernel
theorem dL_isBest_92 : decode cL_isBest 92 = .ok (.if_icmp .gt 11, 3) := by decide +kernel
theorem dL_isBest_95 : decode cL_isBest 95 = .ok (.iconst 1, 1) := by decide +kernel
theorem dL_isBest_96 : decode cL_isBest 96 = .ok (.iload 5, 2) := by decide +kernel
theorem dL_isBest_98 : decode cL_isBest 98 = .ok (.ishl, 1) := by decide +kernel
theorem dL_isBest_99 : decode cL_isBest 99 = .ok (.iload_n 2, 1) := by decide +kernel
theorem dL_isBest_100 : decode cL_isBest 100 = .ok (.if_icmp .lt 13, 3) := by decide +kernel
theorem dL_isBest_103 : decode cL_isBest 103 = .ok (.iload 7, 2) := by decide +kernel
theorem dL_isBest_105 : decode cL_isBest 105 = .ok (.iload_n 3, 1) := by decide +kernel
theorem dL_isBest_106 : decode cL_isBest 106 = .ok (.if_icmp .lt 7, 3) := by decide +kernel
theorem dL_isBest_109 : decode cL_isBest 109 = .ok (.iconst 1, 1) := by decide +kernel
theorem dL_isBest_110 : decode cL_isBest 110 = .ok (.goto 4, 3) := by decide +kernel
theorem dL_isBest_113 : decode cL_isBest 113 = .ok (.iconst 0, 1) := by decide +kernel
theorem dL_isBest_114 : decode cL_isBest 114 = .ok (.istore 4, 2) := by decide +kernel
theorem dL_isBest_116 : decode cL_isBest 116 = .ok (.iinc 5 1, 3) := by decide +kernel
theorem dL_isBest_119 : decode cL_isBest 119 = .ok (.goto (-80), 3) := by decide +kernel
theorem dL_isBest_122 : decode cL_isBest 122 = .ok (.iload 4, 2) := by decide +kernel
theorem dL_isBest_124 : decode cL_isBest 124 = .ok (.ireturn, 1) := by decide +kernel
set_option maxRecDepth 20000 in
theorem ggL_isProved_L_print_h : GoodIn wsL_isProved [.code yL_print cL_print 4 (some .long)] := goodIn_r _ [5] (by decide +kernel) (by decide +kernel)
set_option maxRecDepth 20000 in
theorem ggL_isProved_L_print_r1 : GoodIn wsL_isProved wsL_print_r1 := goodIn_r _ [6, 7, 8, 9, 4, 10, 11, 12, 13, 14, 15, 16, 17, 18, 19, 20, 21, 22, 23, 24, 25, 26, 27, 28] (by decide +kernel) (by decide +kernel)
set_option maxRecDepth 20000 in
theorem ggL_isProved_L_print_r2 : GoodIn wsL_isProved wsL_print_r2 := goodIn_r _ [29, 30, 31, 32, 33, 34, 35, 36, 37, 38, 39, 40, 41, 42, 43, 44, 45, 46, 47, 48, 49, 50, 51, 52] (by decide +kernel) (by decide +kernel)
set_option maxRecDepth 20000 in
theorem ggL_isProved_L_print_r3 : GoodIn wsL_isProved wsL_print_r3 := goodIn_r _ [53, 54, 55, 56, 57, 58, 59, 60, 61, 62, 63, 64, 65, 66, 67, 68, 69, 70, 71, 72, 73, 74, 75, 76] (by decide +kernel) (by decide +kernel)
set_option maxRecDepth 20000 in
theorem ggL_isProved_L_print_r4 : GoodIn wsL_isProved wsL_print_r4 := goodIn_r _ [77, 78, 79, 80, 81, 82, 83, 84, 85, 86, 87, 88, 89, 90, 91, 92, 93, 94, 95, 96, 97, 98, 99, 100] (by decide +kernel) (by decide +kernel)
set_option maxRecDepth 20000 in
theorem ggL_isProved_L_print_r5 : GoodIn wsL_isProved wsL_print_r5 := goodIn_r _ [101, 102, 103, 104, 105, 106, 107, 108, 109, 110, 111, 112] (by decide +kernel) (by decide +kernel)
set_option maxRecDepth 20000 in
theorem ggL_isProved_L_print_x4 : GoodIn wsL_isProved wsX40 := goodIn_r _ [224, 225, 226, 227, 228, 229, 230] (by decide +kernel) (by decide +kernel)
set_option maxRecDepth 20000 in
theorem ggL_isProved_L_print_x1 : GoodIn wsL_isProved wsX10 := goodIn_r _ [231, 232, 233, 234, 235, 236, 237, 238, 239, 240, 241, 242, 243, 244, 245, 246, 247] (by decide +kernel) (by decide +kernel)
set_option maxRecDepth 20000 in
theorem ggL_isProved_L_print_x0 : GoodIn wsL_isProved wsX00 := goodIn_r _ [248, 249, 250, 251] (by decide +kernel) (by decide +kernel)
set_option maxRecDepth 20000 in
theorem ggL_isProved_L_print : GoodIn wsL_isProved wsL_print := goodIn_ca (goodIn_ca (goodIn_cc ggL_isProved_L_print_h (goodIn_app (goodIn_app (goodIn_app (goodIn_app ggL_isProved_L_print_r1 (goodIn_app ggL_isProved_L_print_r2 (goodIn_app ggL_isProved_L_print_r3 (goodIn_app ggL_isProved_L_print_r4 (ggL_isProved_L_print_r5))))) ggL_isProved_L_print_x4) ggL_isProved_L_print_x1) ggL_isProved_L_print_x0)) (goodIn_sub (fun _ h => List.mem_cons_of_mem _ (List.mem_append_left _ (List.mem_append_left _ (List.mem_append_right _ h)))) (by decide +kernel))) (goodIn_sub (fun _ h => List.mem_cons_of_mem _ (List.mem_append_left _ (List.mem_append_right _ h))) (by decide +kernel))
set_option maxRecDepth 20000 in
theorem gL_isProved_L_print : GoodIn wsL_isProved (va_wsS RL 95 yL_print wsL_print) := goodIn_app (goodIn_of _ (by decide +kernel)) ggL_isProved_L_print
set_option maxRecDepth 20000 in
theorem ggL_isProved_X4_deals : GoodIn wsL_isProved wsX4_deals := goodIn_r _ [116, 20, 224, 225, 226, 227, 228, 229, 230, 231, 232, 233, 234, 235, 236, 237, 238, 239, 240, 241, 242, 243, 244, 245, 246, 247, 248, 249, 250, 251] (by decide +kernel) (by decide +kernel)
set_option maxRecDepth 20000 in
theorem gL_isProved_X4_deals : GoodIn wsL_isProved (wsV RL 124 RX4 yX4_deals wsX4_deals) := goodIn_app (goodIn_of _ (by decide +kernel)) ggL_isProved_X4_deals
set_option maxRecDepth 20000 in
theorem ggL_isProved_L_dealsHeld_h : GoodIn wsL_isProved [.codeWith yL_dealsHeld cL_dealsHeld 5 (some .int) [(0, 7, 10, 25)]] := goodIn_r _ [119] (by decide +kernel) (by decide +kernel)
set_option maxRecDepth 20000 in
theorem ggL_isProved_L_dealsHeld_r1 : GoodIn wsL_isProved wsL_dealsHeld_r1 := goodIn_r _ [46, 47, 120, 121, 122, 16, 123, 52, 53, 20, 54, 55, 56, 24, 57, 26, 124, 125, 126, 127, 128, 129, 76, 130] (by decide +kernel) (by decide +kernel)
