set_option maxRecDepth 20000 in
theorem ggL_prove_X4_prove_x4 : GoodIn wsL_prove wsX40 := goodIn_r _ [108, 109, 110, 111, 112, 113, 114] (by decide +kernel) (by decide +kernel)
set_option maxRecDepth 20000 in
theorem ggL_prove_X4_prove_x1 : GoodIn wsL_prove wsX10 := goodIn_r _ [115, 116, 117, 118, 119, 120, 121, 122, 123, 124, 125, 126, 127, 128, 129, 130, 131] (by decide +kernel) (by decide +kernel)
set_option maxRecDepth 20000 in
theorem ggL_prove_X4_prove_x0 : GoodIn wsL_prove wsX00 := goodIn_r _ [132, 133, 134, 135] (by decide +kernel) (by decide +kernel)
set_option maxRecDepth 20000 in
theorem ggL_prove_X4_prove : GoodIn wsL_prove wsX4_prove := goodIn_ca (goodIn_ca (goodIn_cc ggL_prove_X4_prove_h (goodIn_app (goodIn_app (goodIn_app (goodIn_app ggL_prove_X4_prove_r1 (goodIn_app ggL_prove_X4_prove_r2 (goodIn_app ggL_prove_X4_prove_r3 (goodIn_app ggL_prove_X4_prove_r4 (ggL_prove_X4_prove_r5))))) ggL_prove_X4_prove_x4) ggL_prove_X4_prove_x1) ggL_prove_X4_prove_x0)) (goodIn_sub (fun _ h => List.mem_cons_of_mem _ (List.mem_append_left _ (List.mem_append_right _ h))) (by decide +kernel))) (goodIn_sub (fun _ h => List.mem_cons_of_mem _ (List.mem_append_right _ h)) (by decide +kernel))
set_option maxRecDepth 20000 in
theorem gL_prove_X4_prove : GoodIn wsL_prove (wsV RL 28 RX4 yX4_prove wsX4_prove) := goodIn_app (goodIn_of _ (by decide +kernel)) ggL_prove_X4_prove
theorem dL_prove_0 : decode cL_prove 0 = .ok (.aload_n 0, 1) := by decide +kernel
theorem dL_prove_1 : decode cL_prove 1 = .ok (.iload_n 1, 1) := by decide +kernel
theorem dL_prove_2 : decode cL_prove 2 = .ok (.iload_n 2, 1) := by decide +kernel
theorem dL_prove_3 : decode cL_prove 3 = .ok (.invokevirtual 28, 3) := by decide +kernel
theorem dL_prove_6 : decode cL_prove 6 = .ok (.istore_n 3, 1) := by decide +kernel
theorem dL_prove_7 : decode cL_prove 7 = .ok (.goto 13, 3) := by decide +kernel
theorem dL_prove_10 : decode cL_prove 10 = .ok (.astore 4, 2) := by decide +kernel
theorem dL_prove_12 : decode cL_prove 12 = .ok (.ldc 27, 2) := by decide +kernel
theorem dL_prove_14 : decode cL_prove 14 = .ok (.ireturn, 1) := by decide +kernel
theorem dL_prove_15 : decode cL_prove 15 = .ok (.astore 4, 2) := by decide +kernel
theorem dL_prove_17 : decode cL_prove 17 = .ok (.ldc 20, 2) := by decide +kernel
theorem dL_prove_19 : decode cL_prove 19 = .ok (.ireturn, 1) := by decide +kernel
theorem dL_prove_20 : decode cL_prove 20 = .ok (.iload_n 3, 1) := by decide +kernel
theorem dL_prove_21 : decode cL_prove 21 = .ok (.ifCond .eq 7, 3) := by decide +kernel
theorem dL_prove_24 : decode cL_prove 24 = .ok (.iconst 1, 1) := by decide +kernel
theorem dL_prove_25 : decode cL_prove 25 = .ok (.goto 4, 3) := by decide +kernel
theorem dL_prove_28 : decode cL_prove 28 = .ok (.iconst 0, 1) := by decide +kernel
theorem dL_prove_29 : decode cL_prove 29 = .ok (.ireturn, 1) := by decide +kernel
set_option maxRecDepth 20000 in
theorem ggL_leave_X4_leave_h : GoodIn wsL_leave [.code yX4_leave cX4_leave 2 (some .int)] := goodIn_r _ [9] (by decide +kernel) (by decide +kernel)
set_option maxRecDepth 20000 in
theorem ggL_leave_X4_leave_r1 : GoodIn wsL_leave wsX4_leave_r1 := goodIn_r _ [10, 11, 12, 13, 14, 15, 16, 17, 18, 19, 20, 21, 22, 23, 24, 25, 26, 27, 28, 29, 30, 8, 31, 32] (by decide +kernel) (by decide +kernel)
set_option maxRecDepth 20000 in
theorem ggL_leave_X4_leave_r2 : GoodIn wsL_leave wsX4_leave_r2 := goodIn_r _ [33, 34, 35, 36, 37, 38, 39, 40, 41, 42, 43, 44, 45, 46, 47, 48, 49, 50, 51, 52, 53, 54, 55, 56] (by decide +kernel) (by decide +kernel)
set_option maxRecDepth 20000 in
theorem ggL_leave_X4_leave_r3 : GoodIn wsL_leave wsX4_leave_r3 := goodIn_r _ [57, 58, 59, 60, 61, 62, 63, 64, 65, 66, 67, 68, 69, 70, 71, 72, 73, 74, 75, 76, 77, 78, 79, 80] (by decide +kernel) (by decide +kernel)
set_option maxRecDepth 20000 in
theorem ggL_leave_X4_leave_r4 : GoodIn wsL_leave wsX4_leave_r4 := goodIn_r _ [81, 82, 83, 84, 85, 86, 87, 88, 89, 90, 91] (by decide +kernel) (by decide +kernel)
set_option maxRecDepth 20000 in
theorem ggL_leave_X4_leave_x4 : GoodIn wsL_leave wsX40 := goodIn_r _ [92, 93, 94, 95, 96, 97, 98] (by decide +kernel) (by decide +kernel)
set_option maxRecDepth 20000 in
theorem ggL_leave_X4_leave_x1 : GoodIn wsL_leave wsX10 := goodIn_r _ [99, 100, 101, 102, 103, 104, 105, 106, 107, 108, 109, 110, 111, 112, 113, 114, 115] (by decide +kernel) (by decide +kernel)
set_option maxRecDepth 20000 in
theorem ggL_leave_X4_leave_x0 : GoodIn wsL_leave wsX00 := goodIn_r _ [116, 117, 118, 119] (by decide +kernel) (by decide +kernel)
set_option maxRecDepth 20000 in
theorem ggL_leave_X4_leave : GoodIn wsL_leave wsX4_leave := goodIn_ca (goodIn_ca (goodIn_cc ggL_leave_X4_leave_h (goodIn_app (goodIn_app (goodIn_app (goodIn_app ggL_leave_X4_leave_r1 (goodIn_app ggL_leave_X4_leave_r2 (goodIn_app ggL_leave_X4_leave_r3 (ggL_leave_X4_leave_r4)))) ggL_leave_X4_leave_x4) ggL_leave_X4_leave_x1) ggL_leave_X4_leave_x0)) (goodIn_sub (fun _ h => List.mem_cons_of_mem _ (List.mem_append_left _ (List.mem_append_right _ h))) (by decide +kernel))) (goodIn_sub (fun _ h => List.mem_cons_of_mem _ (List.mem_append_right _ h)) (by decide +kernel))
set_option maxRecDepth 20000 in
theorem gL_leave_X4_leave : GoodIn wsL_leave (wsV RL 32 RX4 yX4_leave wsX4_leave) := goodIn_app (goodIn_of _ (by decide +kernel)) ggL_leave_X4_leave
theorem dL_leave_0 : decode cL_leave 0 = .ok (.aload_n 0, 1) := by decide +kernel
theorem dL_leave_1 : decode cL_leave 1 = .ok (.iload_n 1, 1) := by decide +kernel
theorem dL_leave_2 : decode cL_leave 2 = .ok (.invokevirtual 32, 3) := by decide +kernel
theorem dL_leave_5 : decode cL_leave 5 = .ok (.istore_n 2, 1) := by decide +kernel
theorem dL_leave_6 : decode cL_leave 6 = .ok (.goto 11, 3) := by decide +kernel
theorem dL_leave_9 : decode cL_leave 9 = .ok (.astore_n 3, 1) := by decide +kernel
theorem dL_leave_10 : decode cL_leave 10 = .ok (.ldc 27, 2) := by decide +kernel
theorem dL_leave_12 : decode cL_leave 12 = .ok (.ireturn, 1) := by decide +kernel
theorem dL_leave_13 : decode cL_leave 13 = .ok (.astore_n 3, 1) := by decide +kernel
theorem dL_leave_14 : decode cL_leave 14 = .ok (.ldc 20, 2) := by decide +kernel
theorem dL_leave_16 : decode cL_leave 16 = .ok (.ireturn, 1) := by decide +kernel
theorem dL_leave_17 : decode cL_leave 17 = .ok (.iload_n 2, 1) := by decide +kernel
theorem dL_leave_18 : decode cL_leave 18 = .ok (.ireturn, 1) := by decide +kernel
set_option maxRecDepth 20000 in
theorem ggL_accuse_X4_accuse_h : GoodIn wsL_accuse [.code yX4_accuse cX4_accuse 2 (some .int)] := goodIn_r _ [9] (by decide +kernel) (by decide +kernel)
set_option maxRecDepth 20000 in
theorem ggL_accuse_X4_accuse_r1 : GoodIn wsL_accuse wsX4_accuse_r1 := goodIn_r _ [10, 11, 12, 13, 14, 15, 16, 8, 17, 18, 19, 20, 21, 22, 23, 24, 25, 26, 27, 28, 29, 30, 31, 32] (by decide +kernel) (by decide +kernel)
set_option maxRecDepth 20000 in
theorem ggL_accuse_X4_accuse_r2 : GoodIn wsL_accuse wsX4_accuse_r2 := goodIn_r _ [33, 34, 35, 36, 37, 38, 39, 40, 41, 42, 43, 44, 45, 46, 47, 48, 49, 50, 51, 52, 53, 54, 55, 56] (by decide +kernel) (by decide +kernel)
set_option maxRecDepth 20000 in
theorem ggL_accuse_X4_accuse_r3 : GoodIn wsL_accuse wsX4_accuse_r3 := goodIn_r _ [57, 58, 59, 60, 61, 62, 63, 64, 65, 66, 67, 68, 69, 70, 71, 72, 73, 74, 75, 76, 77, 78] (by decide +kernel) (by decide +kernel)
set_option maxRecDepth 20000 in
theorem ggL_accuse_X4_accuse_x4 : GoodIn wsL_accuse wsX40 := goodIn_r _ [79, 80, 81, 82, 83, 84, 85] (by decide +kernel) (by decide +kernel)
set_option maxRecDepth 20000 in
theorem ggL_accuse_X4_accuse_x1 : GoodIn wsL_accuse wsX10 := goodIn_r _ [86, 87, 88, 89, 90, 91, 92, 93, 94, 95, 96, 97, 98, 99, 100, 101, 102] (by decide +kernel) (by decide +kernel)
set_option maxRecDepth 20000 in
theorem ggL_accuse_X4_accuse_x0 : GoodIn wsL_accuse wsX00 := goodIn_r _ [103, 104, 105, 106] (by decide +kernel) (by decide +kernel)
set_option maxRecDepth 20000 in
theorem ggL_accuse_X4_accuse : GoodIn wsL_accuse wsX4_accuse := goodIn_ca (goodIn_ca (goodIn_cc ggL_accuse_X4_accuse_h (goodIn_app (goodIn_app (goodIn_app (goodIn_app ggL_accuse_X4_accuse_r1 (goodIn_app ggL_accuse_X4_accuse_r2 (ggL_accuse_X4_accuse_r3))) ggL_accuse_X4_accuse_x4) ggL_accuse_X4_accuse_x1) ggL_accuse_X4_accuse_x0)) (goodIn_sub (fun _ h => List.mem_cons_of_mem _ (List.mem_append_left _ (List.mem_append_right _ h))) (by decide +kernel))) (goodIn_sub (fun _ h => List.mem_cons_of_mem _ (List.mem_append_right _ h)) (by decide +kernel))
set_option maxRecDepth 20000 in
theorem gL_accuse_X4_accuse : GoodIn wsL_accuse (wsV RL 36 RX4 yX4_accuse wsX4_accuse) := goodIn_app (goodIn_of _ (by decide +kernel)) ggL_accuse_X4_accuse
theorem dL_accuse_0 : decode cL_accuse 0 = .ok (.aload_n 0, 1) := by decide +kernel
theorem dL_accuse_1 : decode cL_accuse 1 = .ok (.iload_n 1, 1) := by decide +kernel
theorem dL_accuse_2 : decode cL_accuse 2 = .ok (.invokevirtual 36, 3) := by decide +kernel
theorem dL_accuse_5 : decode cL_accuse 5 = .ok (.istore_n 2, 1) := by decide +kernel
theorem dL_accuse_6 : decode cL_accuse 6 = .ok (.goto 11, 3) := by decide +kernel
theorem dL_accuse_9 : decode cL_accuse 9 = .ok (.astore_n 3, 1) := by decide +kernel
theorem dL_accuse_10 : decode cL_accuse 10 = .ok (.ldc 27, 2) := by decide +kernel
theorem dL_accuse_12 : decode cL_accuse 12 = .ok (.ireturn, 1) := by decide +kernel
theorem dL_accuse_13 : decode cL_accuse 13 = .ok (.astore_n 3, 1) := by decide +kernel
theorem dL_accuse_14 : decode cL_accuse 14 = .ok (.ldc 20, 2) := by decide +kernel
theorem dL_accuse_16 : decode cL_accuse 16 = .ok (.ireturn, 1) := by decide +kernel
theorem dL_accuse_17 : decode cL_accuse 17 = .ok (.iload_n 2, 1) := by decide +kernel
theorem dL_accuse_18 : decode cL_accuse 18 = .ok (.ireturn, 1) := by decide +kernel
set_option maxRecDepth 20000 in
theorem ggL_guest_X4_guest_h : GoodIn wsL_guest [.code yX4_guest cX4_guest 3 (some .int)] := goodIn_r _ [9] (by decide +kernel) (by decide +kernel)
set_option maxRecDepth 20000 in
theorem ggL_guest_X4_guest_r1 : GoodIn wsL_guest wsX4_guest_r1 := goodIn_r _ [10, 11, 12, 13, 14, 15, 16, 17, 18, 19, 20, 21, 22, 23, 24, 25, 26, 27, 28, 29, 8, 30, 31, 32] (by decide +kernel) (by decide +kernel)
set_option maxRecDepth 20000 in
theorem ggL_guest_X4_guest_r2 : GoodIn wsL_guest wsX4_guest_r2 := goodIn_r _ [33, 34, 35, 36, 37, 38, 39, 40, 41, 42, 43, 44, 45, 46, 47, 48, 49, 50, 51, 52, 53, 54, 55, 56] (by decide +kernel) (by decide +kernel)
set_option maxRecDepth 20000 in
theorem ggL_guest_X4_guest_r3 : GoodIn wsL_guest wsX4_guest_r3 := goodIn_r _ [57, 58, 59, 60, 61, 62, 63, 64, 65] (by decide +kernel) (by decide +kernel)
set_option maxRecDepth 20000 in
theorem ggL_guest_X4_guest_x4 : GoodIn wsL_guest wsX40 := goodIn_r _ [66, 67, 68, 69, 70, 71, 72] (by decide +kernel) (by decide +kernel)
set_option maxRecDepth 20000 in
theorem ggL_guest_X4_guest_x1 : GoodIn wsL_guest wsX10 := goodIn_r _ [73, 74, 75, 76, 77, 78, 79, 80, 81, 82, 83, 84, 85, 86, 87, 88, 89] (by decide +kernel) (by decide +kernel)
