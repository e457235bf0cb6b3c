theorem dL_append_14 : decode cL_append 14 = .ok (.ldc 20, 2) := by decide +kernel
theorem dL_append_16 : decode cL_append 16 = .ok (.ireturn, 1) := by decide +kernel
theorem dL_append_17 : decode cL_append 17 = .ok (.iload_n 2, 1) := by decide +kernel
theorem dL_append_18 : decode cL_append 18 = .ok (.ireturn, 1) := by decide +kernel
set_option maxRecDepth 20000 in
theorem ggL_undo_X4_undo_h : GoodIn wsL_undo [.code yX4_undo cX4_undo 1 (some .int)] := goodIn_r _ [7] (by decide +kernel) (by decide +kernel)
set_option maxRecDepth 20000 in
theorem ggL_undo_X4_undo_r1 : GoodIn wsL_undo wsX4_undo_r1 := goodIn_r _ [8, 9, 10, 11, 12, 13, 6, 14, 15, 16, 17, 18, 19, 20, 21, 22, 23, 24, 25, 26, 27, 28, 29, 30] (by decide +kernel) (by decide +kernel)
set_option maxRecDepth 20000 in
theorem ggL_undo_X4_undo_r2 : GoodIn wsL_undo wsX4_undo_r2 := goodIn_r _ [31, 32, 33, 34, 35, 36, 37, 38, 39, 40, 41, 42, 43, 44, 45, 46, 47, 48, 49, 50, 51, 52, 53, 54] (by decide +kernel) (by decide +kernel)
set_option maxRecDepth 20000 in
theorem ggL_undo_X4_undo_r3 : GoodIn wsL_undo wsX4_undo_r3 := goodIn_r _ [55, 56, 57, 58, 59, 60, 61, 62, 63, 64, 65, 66, 67] (by decide +kernel) (by decide +kernel)
set_option maxRecDepth 20000 in
theorem ggL_undo_X4_undo_x4 : GoodIn wsL_undo wsX40 := goodIn_r _ [68, 69, 70, 71, 72, 73, 74] (by decide +kernel) (by decide +kernel)
set_option maxRecDepth 20000 in
theorem ggL_undo_X4_undo_x1 : GoodIn wsL_undo wsX10 := goodIn_r _ [75, 76, 77, 78, 79, 80, 81, 82, 83, 84, 85, 86, 87, 88, 89, 90, 91] (by decide +kernel) (by decide +kernel)
set_option maxRecDepth 20000 in
theorem ggL_undo_X4_undo_x0 : GoodIn wsL_undo wsX00 := goodIn_r _ [92, 93, 94, 95] (by decide +kernel) (by decide +kernel)
set_option maxRecDepth 20000 in
theorem ggL_undo_X4_undo : GoodIn wsL_undo wsX4_undo := goodIn_ca (goodIn_cc ggL_undo_X4_undo_h (goodIn_app (goodIn_app (goodIn_app (goodIn_app ggL_undo_X4_undo_r1 (goodIn_app ggL_undo_X4_undo_r2 (ggL_undo_X4_undo_r3))) ggL_undo_X4_undo_x4) ggL_undo_X4_undo_x1) ggL_undo_X4_undo_x0)) (goodIn_sub (fun _ h => List.mem_cons_of_mem _ (List.mem_append_right _ h)) (by decide +kernel))
set_option maxRecDepth 20000 in
theorem gL_undo_X4_undo : GoodIn wsL_undo (wsV RL 77 RX4 yX4_undo wsX4_undo) := goodIn_app (goodIn_of _ (by decide +kernel)) ggL_undo_X4_undo
theorem dL_undo_0 : decode cL_undo 0 = .ok (.aload_n 0, 1) := by decide +kernel
theorem dL_undo_1 : decode cL_undo 1 = .ok (.invokevirtual 77, 3) := by decide +kernel
theorem dL_undo_4 : decode cL_undo 4 = .ok (.istore_n 1, 1) := by decide +kernel
theorem dL_undo_5 : decode cL_undo 5 = .ok (.goto 7, 3) := by decide +kernel
theorem dL_undo_8 : decode cL_undo 8 = .ok (.astore_n 2, 1) := by decide +kernel
theorem dL_undo_9 : decode cL_undo 9 = .ok (.ldc 20, 2) := by decide +kernel
theorem dL_undo_11 : decode cL_undo 11 = .ok (.ireturn, 1) := by decide +kernel
theorem dL_undo_12 : decode cL_undo 12 = .ok (.iload_n 1, 1) := by decide +kernel
theorem dL_undo_13 : decode cL_undo 13 = .ok (.ireturn, 1) := by decide +kernel
set_option maxRecDepth 20000 in
theorem ggL_print_L_value : GoodIn wsL_print wsL_value := goodIn_ca (goodIn_r _ [6, 7, 8, 9, 10, 11, 12, 13, 14, 15, 16, 17, 18, 19, 20, 21, 22, 23, 24, 25, 26, 27, 28, 29, 30, 31, 32, 33, 34, 35, 36, 37, 38, 109, 110, 111, 112, 113, 114, 115, 116, 117, 118, 119, 120, 121, 122, 123, 124, 125, 126, 127, 128, 129, 130, 131, 132] (by decide +kernel) (by decide +kernel)) (goodIn_sub (fun _ h => List.mem_cons_of_mem _ (List.mem_append_left _ (List.mem_append_right _ h))) (by decide +kernel))
set_option maxRecDepth 20000 in
theorem gL_print_L_value : GoodIn wsL_print (va_wsS RL 85 yL_value wsL_value) := goodIn_app (goodIn_of _ (by decide +kernel)) ggL_print_L_value
set_option maxRecDepth 20000 in
theorem ggL_print_L_guest_h : GoodIn wsL_print [.codeWith yL_guest cL_guest 5 (some .int) [(0, 7, 10, 25), (0, 7, 15, 15)]] := goodIn_r _ [41] (by decide +kernel) (by decide +kernel)
set_option maxRecDepth 20000 in
theorem ggL_print_L_guest_r1 : GoodIn wsL_print wsL_guest_r1 := goodIn_r _ [42, 7, 43, 8, 44, 45, 46, 12, 47, 48, 49, 14, 15, 16, 50, 51, 52, 20, 53, 22, 54, 55, 56, 57] (by decide +kernel) (by decide +kernel)
set_option maxRecDepth 20000 in
theorem ggL_print_L_guest_r2 : GoodIn wsL_print wsL_guest_r2 := goodIn_r _ [30, 58, 59, 23, 60, 61, 62, 63, 64, 65, 66, 67, 24, 68, 69, 70, 71, 72, 73, 74, 75, 76, 77, 78] (by decide +kernel) (by decide +kernel)
set_option maxRecDepth 20000 in
theorem ggL_print_L_guest_r3 : GoodIn wsL_print wsL_guest_r3 := goodIn_r _ [79, 80, 81, 82, 83, 84, 85, 86, 87, 88, 89, 90, 91, 92, 93, 94, 95] (by decide +kernel) (by decide +kernel)
set_option maxRecDepth 20000 in
theorem ggL_print_L_guest_x4 : GoodIn wsL_print wsX40 := goodIn_r _ [109, 110, 111, 112, 113, 114, 115] (by decide +kernel) (by decide +kernel)
set_option maxRecDepth 20000 in
theorem ggL_print_L_guest_x1 : GoodIn wsL_print wsX10 := goodIn_r _ [116, 117, 118, 119, 120, 121, 122, 123, 124, 125, 126, 127, 128, 129, 130, 131, 132] (by decide +kernel) (by decide +kernel)
set_option maxRecDepth 20000 in
theorem ggL_print_L_guest_x0 : GoodIn wsL_print wsX00 := goodIn_r _ [133, 134, 135, 136] (by decide +kernel) (by decide +kernel)
set_option maxRecDepth 20000 in
theorem ggL_print_L_guest : GoodIn wsL_print wsL_guest := goodIn_ca (goodIn_ca (goodIn_cc ggL_print_L_guest_h (goodIn_app (goodIn_app (goodIn_app (goodIn_app ggL_print_L_guest_r1 (goodIn_app ggL_print_L_guest_r2 (ggL_print_L_guest_r3))) ggL_print_L_guest_x4) ggL_print_L_guest_x1) ggL_print_L_guest_x0)) (goodIn_sub (fun _ h => List.mem_cons_of_mem _ (List.mem_append_right _ h)) (by decide +kernel))) (goodIn_sub (fun _ h => List.mem_cons_of_mem _ (List.mem_append_left _ (List.mem_append_right _ h))) (by decide +kernel))
set_option maxRecDepth 20000 in
theorem gL_print_L_guest : GoodIn wsL_print (va_wsS RL 90 yL_guest wsL_guest) := goodIn_app (goodIn_of _ (by decide +kernel)) ggL_print_L_guest
set_option maxRecDepth 20000 in
theorem ggL_print_L_question : GoodIn wsL_print wsL_question := goodIn_ca (goodIn_ca (goodIn_r _ [98, 42, 7, 43, 8, 99, 100, 101, 12, 102, 48, 49, 14, 15, 16, 103, 104, 105, 20, 106, 68, 107, 108, 109, 110, 111, 112, 113, 114, 115, 116, 117, 118, 119, 120, 121, 122, 123, 124, 125, 126, 127, 128, 129, 130, 131, 132] (by decide +kernel) (by decide +kernel)) (goodIn_sub (fun _ h => List.mem_cons_of_mem _ (List.mem_append_right _ h)) (by decide +kernel))) (goodIn_sub (fun _ h => List.mem_cons_of_mem _ (List.mem_append_left _ (List.mem_append_right _ h))) (by decide +kernel))
set_option maxRecDepth 20000 in
theorem gL_print_L_question : GoodIn wsL_print (va_wsS RL 93 yL_question wsL_question) := goodIn_app (goodIn_of _ (by decide +kernel)) ggL_print_L_question
theorem dL_print_0 : decode cL_print 0 = .ok (.ldc2_w 81, 3) := by decide +kernel
theorem dL_print_3 : decode cL_print 3 = .ok (.lstore_n 1, 1) := by decide +kernel
theorem dL_print_4 : decode cL_print 4 = .ok (.iconst 0, 1) := by decide +kernel
theorem dL_print_5 : decode cL_print 5 = .ok (.istore_n 3, 1) := by decide +kernel
theorem dL_print_6 : decode cL_print 6 = .ok (.iload_n 3, 1) := by decide +kernel
theorem dL_print_7 : decode cL_print 7 = .ok (.bipush 10, 2) := by decide +kernel
theorem dL_print_9 : decode cL_print 9 = .ok (.if_icmp .ge 22, 3) := by decide +kernel
theorem dL_print_12 : decode cL_print 12 = .ok (.ldc2_w 83, 3) := by decide +kernel
theorem dL_print_15 : decode cL_print 15 = .ok (.lload_n 1, 1) := by decide +kernel
theorem dL_print_16 : decode cL_print 16 = .ok (.lmul, 1) := by decide +kernel
theorem dL_print_17 : decode cL_print 17 = .ok (.aload_n 0, 1) := by decide +kernel
theorem dL_print_18 : decode cL_print 18 = .ok (.iload_n 3, 1) := by decide +kernel
theorem dL_print_19 : decode cL_print 19 = .ok (.invokestatic 85, 3) := by decide +kernel
theorem dL_print_22 : decode cL_print 22 = .ok (.i2l, 1) := by decide +kernel
theorem dL_print_23 : decode cL_print 23 = .ok (.ladd, 1) := by decide +kernel
theorem dL_print_24 : decode cL_print 24 = .ok (.lstore_n 1, 1) := by decide +kernel
theorem dL_print_25 : decode cL_print 25 = .ok (.iinc 3 1, 3) := by decide +kernel
theorem dL_print_28 : decode cL_print 28 = .ok (.goto (-22), 3) := by decide +kernel
theorem dL_print_31 : decode cL_print 31 = .ok (.iconst 0, 1) := by decide +kernel
theorem dL_print_32 : decode cL_print 32 = .ok (.istore_n 3, 1) := by decide +kernel
theorem dL_print_33 : decode cL_print 33 = .ok (.iload_n 3, 1) := by decide +kernel
theorem dL_print_34 : decode cL_print 34 = .ok (.iconst 4, 1) := by decide +kernel
theorem dL_print_35 : decode cL_print 35 = .ok (.if_icmp .ge 72, 3) := by decide +kernel
theorem dL_print_38 : decode cL_print 38 = .ok (.ldc2_w 83, 3) := by decide +kernel
theorem dL_print_41 : decode cL_print 41 = .ok (.ldc2_w 83, 3) := by decide +kernel
theorem dL_print_44 : decode cL_print 44 = .ok (.ldc2_w 83, 3) := by decide +kernel
theorem dL_print_47 : decode cL_print 47 = .ok (.ldc2_w 83, 3) := by decide +kernel
theorem dL_print_50 : decode cL_print 50 = .ok (.ldc2_w 83, 3) := by decide +kernel
theorem dL_print_53 : decode cL_print 53 = .ok (.lload_n 1, 1) := by decide +kernel
theorem dL_print_54 : decode cL_print 54 = .ok (.lmul, 1) := by decide +kernel
theorem dL_print_55 : decode cL_print 55 = .ok (.aload_n 0, 1) := by decide +kernel
theorem dL_print_56 : decode cL_print 56 = .ok (.iload_n 3, 1) := by decide +kernel
theorem dL_print_57 : decode cL_print 57 = .ok (.iconst 0, 1) := by decide +kernel
theorem dL_print_58 : decode cL_print 58 = .ok (.invokestatic 90, 3) := by decide +kernel
theorem dL_print_61 : decode cL_print 61 = .ok (.i2l, 1) := by decide +kernel
theorem dL_print_62 : decode cL_print 62 = .ok (.ladd, 1) := by decide +kernel
theorem dL_print_63 : decode cL_print 63 = .ok (.lmul, 1) := by decide +kernel
theorem dL_print_64 : decode cL_print 64 = .ok (.aload_n 0, 1) := by decide +kernel
theorem dL_print_65 : decode cL_print 65 = .ok (.iload_n 3, 1) := by decide +kernel
theorem dL_print_66 : decode cL_print 66 = .ok (.iconst 1, 1) := by decide +kernel
theorem dL_print_67 : decode cL_print 67 = .ok (.invokestatic 90, 3) := by decide +kernel
theorem dL_print_70 : decode cL_print 70 = .ok (.i2l, 1) := by decide +kernel
theorem dL_print_71 : decode cL_print 71 = .ok (.ladd, 1) := by decide +kernel
theorem dL_print_72 : decode cL_print 72 = .ok (.lmul, 1) := by decide +kernel
theorem dL_print_73 : decode cL_print 73 = .ok (.aload_n 0, 1) := by decide +kernel
theorem dL_print_74 : decode cL_print 74 = .ok (.iload_n 3, 1) := by decide +kernel
theorem dL_print_75 : decode cL_print 75 = .ok (.iconst 2, 1) := by decide +kernel
theorem dL_print_76 : decode cL_print 76 = .ok (.invokestatic 90, 3) := by decide +kernel
theorem dL_print_79 : decode cL_print 79 = .ok (.i2l, 1) := by decide +kernel
theorem dL_print_80 : decode cL_print 80 = .ok (.ladd, 1) := by decide +kernel
theorem dL_print_81 : decode cL_print 81 = .ok (.lmul, 1) := by decide +kernel
theorem dL_print_82 : decode cL_print 82 = .ok (.aload_n 0, 1) := by decide +kernel
theorem dL_print_83 : decode cL_print 83 = .ok (.iload_n 3, 1) := by decide +kernel
theorem dL_print_84 : decode cL_print 84 = .ok (.iconst 3, 1) := by decide +kernel
theorem dL_print_85 : decode cL_print 85 = .ok (.invokestatic 90, 3) := by decide +kernel
theorem dL_print_88 : decode cL_print 88 = .ok (.i2l, 1) := by decide +kernel
theorem dL_print_89 : decode cL_print 89 = .ok (.ladd, 1) := by decide +kernel
theorem dL_print_90 : decode cL_print 90 = .ok (.lmul, 1) := by decide +kernel
theorem dL_print_91 : decode cL_print 91 = .ok (.aload_n 0, 1) := by decide +kernel
theorem dL_print_92 : decode cL_print 92 = .ok (.iload_n 3, 1) := by decide +kernel
theorem dL_print_93 : decode cL_print 93 = .ok (.bipush 7, 2) := by decide +kernel
theorem dL_print_95 : decode cL_print 95 = .ok (.invokestatic 90, 3) := by decide +kernel
theorem dL_print_98 : decode cL_print 98 = .ok (.i2l, 1) := by decide +kernel
