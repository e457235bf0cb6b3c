set_option maxRecDepth 20000 in
theorem ggL_acts_L_ask_r6 : GoodIn wsL_acts wsL_ask_r6 := goodIn_r _ [204, 205, 112, 113, 114, 115, 108, 109, 110, 111] (by decide +kernel) (by decide +kernel)
set_option maxRecDepth 20000 in
theorem ggL_acts_L_ask_x4 : GoodIn wsL_acts wsX40 := goodIn_r _ [232, 233, 234, 235, 236, 237, 238] (by decide +kernel) (by decide +kernel)
set_option maxRecDepth 20000 in
theorem ggL_acts_L_ask_x1 : GoodIn wsL_acts wsX10 := goodIn_r _ [239, 240, 241, 242, 243, 244, 245, 246, 247, 248, 249, 250, 251, 252, 253, 254, 255] (by decide +kernel) (by decide +kernel)
set_option maxRecDepth 20000 in
theorem ggL_acts_L_ask_x0 : GoodIn wsL_acts wsX00 := goodIn_r _ [256, 257, 258, 259] (by decide +kernel) (by decide +kernel)
set_option maxRecDepth 20000 in
theorem ggL_acts_L_ask : GoodIn wsL_acts wsL_ask := goodIn_ca (goodIn_ca (goodIn_ca (goodIn_cc ggL_acts_L_ask_h (goodIn_app (goodIn_app (goodIn_app (goodIn_app ggL_acts_L_ask_r1 (goodIn_app ggL_acts_L_ask_r2 (goodIn_app ggL_acts_L_ask_r3 (goodIn_app ggL_acts_L_ask_r4 (goodIn_app ggL_acts_L_ask_r5 (ggL_acts_L_ask_r6)))))) ggL_acts_L_ask_x4) ggL_acts_L_ask_x1) ggL_acts_L_ask_x0)) (goodIn_sub (fun _ h => List.mem_cons_of_mem _ (List.mem_append_right _ h)) (by decide +kernel))) (goodIn_sub (fun _ h => List.mem_cons_of_mem _ (List.mem_append_left _ (List.mem_append_left _ (List.mem_append_right _ h)))) (by decide +kernel))) (goodIn_sub (fun _ h => List.mem_cons_of_mem _ (List.mem_append_left _ (List.mem_append_right _ h))) (by decide +kernel))
set_option maxRecDepth 20000 in
theorem gL_acts_L_ask : GoodIn wsL_acts (va_wsS RL 102 yL_ask wsL_ask) := goodIn_app (goodIn_of _ (by decide +kernel)) ggL_acts_L_ask
theorem dL_acts_0 : decode cL_acts 0 = .ok (.aload_n 0, 1) := by decide +kernel
theorem dL_acts_1 : decode cL_acts 1 = .ok (.iconst 0, 1) := by decide +kernel
theorem dL_acts_2 : decode cL_acts 2 = .ok (.invokestatic 85, 3) := by decide +kernel
theorem dL_acts_5 : decode cL_acts 5 = .ok (.istore_n 3, 1) := by decide +kernel
theorem dL_acts_6 : decode cL_acts 6 = .ok (.iload_n 3, 1) := by decide +kernel
theorem dL_acts_7 : decode cL_acts 7 = .ok (.ifCond .ne 7, 3) := by decide +kernel
theorem dL_acts_10 : decode cL_acts 10 = .ok (.iconst 0, 1) := by decide +kernel
theorem dL_acts_11 : decode cL_acts 11 = .ok (.goto 6, 3) := by decide +kernel
theorem dL_acts_14 : decode cL_acts 14 = .ok (.iload_n 2, 1) := by decide +kernel
theorem dL_acts_15 : decode cL_acts 15 = .ok (.iload_n 3, 1) := by decide +kernel
theorem dL_acts_16 : decode cL_acts 16 = .ok (.irem, 1) := by decide +kernel
theorem dL_acts_17 : decode cL_acts 17 = .ok (.istore 4, 2) := by decide +kernel
theorem dL_acts_19 : decode cL_acts 19 = .ok (.aload_n 0, 1) := by decide +kernel
theorem dL_acts_20 : decode cL_acts 20 = .ok (.iconst 1, 1) := by decide +kernel
theorem dL_acts_21 : decode cL_acts 21 = .ok (.invokestatic 85, 3) := by decide +kernel
theorem dL_acts_24 : decode cL_acts 24 = .ok (.ifCond .ne 36, 3) := by decide +kernel
theorem dL_acts_27 : decode cL_acts 27 = .ok (.iload_n 1, 1) := by decide +kernel
theorem dL_acts_28 : decode cL_acts 28 = .ok (.iconst 3, 1) := by decide +kernel
theorem dL_acts_29 : decode cL_acts 29 = .ok (.ishr, 1) := by decide +kernel
theorem dL_acts_30 : decode cL_acts 30 = .ok (.iconst 4, 1) := by decide +kernel
theorem dL_acts_31 : decode cL_acts 31 = .ok (.invokestatic 149, 3) := by decide +kernel
theorem dL_acts_34 : decode cL_acts 34 = .ok (.ifCond .le 26, 3) := by decide +kernel
theorem dL_acts_37 : decode cL_acts 37 = .ok (.aload_n 0, 1) := by decide +kernel
theorem dL_acts_38 : decode cL_acts 38 = .ok (.iconst 3, 1) := by decide +kernel
theorem dL_acts_39 : decode cL_acts 39 = .ok (.iload_n 2, 1) := by decide +kernel
theorem dL_acts_40 : decode cL_acts 40 = .ok (.iconst 4, 1) := by decide +kernel
theorem dL_acts_41 : decode cL_acts 41 = .ok (.irem, 1) := by decide +kernel
theorem dL_acts_42 : decode cL_acts 42 = .ok (.iconst 3, 1) := by decide +kernel
theorem dL_acts_43 : decode cL_acts 43 = .ok (.idiv, 1) := by decide +kernel
theorem dL_acts_44 : decode cL_acts 44 = .ok (.iadd, 1) := by decide +kernel
theorem dL_acts_45 : decode cL_acts 45 = .ok (.iload_n 2, 1) := by decide +kernel
theorem dL_acts_46 : decode cL_acts 46 = .ok (.iconst 3, 1) := by decide +kernel
theorem dL_acts_47 : decode cL_acts 47 = .ok (.irem, 1) := by decide +kernel
theorem dL_acts_48 : decode cL_acts 48 = .ok (.ifCond .ne 7, 3) := by decide +kernel
theorem dL_acts_51 : decode cL_acts 51 = .ok (.iconst (-1), 1) := by decide +kernel
theorem dL_acts_52 : decode cL_acts 52 = .ok (.goto 4, 3) := by decide +kernel
theorem dL_acts_55 : decode cL_acts 55 = .ok (.iload_n 2, 1) := by decide +kernel
theorem dL_acts_56 : decode cL_acts 56 = .ok (.invokestatic 99, 3) := by decide +kernel
theorem dL_acts_59 : decode cL_acts 59 = .ok (.ireturn, 1) := by decide +kernel
theorem dL_acts_60 : decode cL_acts 60 = .ok (.iload_n 1, 1) := by decide +kernel
theorem dL_acts_61 : decode cL_acts 61 = .ok (.bipush 16, 2) := by decide +kernel
theorem dL_acts_63 : decode cL_acts 63 = .ok (.invokestatic 149, 3) := by decide +kernel
theorem dL_acts_66 : decode cL_acts 66 = .ok (.tableswitch 63 0 4 #[34, 43, 50, 50, 50], 34) := by decide +kernel
theorem dL_acts_100 : decode cL_acts 100 = .ok (.aload_n 0, 1) := by decide +kernel
theorem dL_acts_101 : decode cL_acts 101 = .ok (.iload_n 2, 1) := by decide +kernel
theorem dL_acts_102 : decode cL_acts 102 = .ok (.bipush 8, 2) := by decide +kernel
theorem dL_acts_104 : decode cL_acts 104 = .ok (.irem, 1) := by decide +kernel
theorem dL_acts_105 : decode cL_acts 105 = .ok (.invokestatic 109, 3) := by decide +kernel
theorem dL_acts_108 : decode cL_acts 108 = .ok (.ireturn, 1) := by decide +kernel
theorem dL_acts_109 : decode cL_acts 109 = .ok (.aload_n 0, 1) := by decide +kernel
theorem dL_acts_110 : decode cL_acts 110 = .ok (.iload 4, 2) := by decide +kernel
theorem dL_acts_112 : decode cL_acts 112 = .ok (.invokestatic 107, 3) := by decide +kernel
theorem dL_acts_115 : decode cL_acts 115 = .ok (.ireturn, 1) := by decide +kernel
theorem dL_acts_116 : decode cL_acts 116 = .ok (.aload_n 0, 1) := by decide +kernel
theorem dL_acts_117 : decode cL_acts 117 = .ok (.iload 4, 2) := by decide +kernel
theorem dL_acts_119 : decode cL_acts 119 = .ok (.iload_n 2, 1) := by decide +kernel
theorem dL_acts_120 : decode cL_acts 120 = .ok (.iconst 4, 1) := by decide +kernel
theorem dL_acts_121 : decode cL_acts 121 = .ok (.idiv, 1) := by decide +kernel
theorem dL_acts_122 : decode cL_acts 122 = .ok (.bipush 8, 2) := by decide +kernel
theorem dL_acts_124 : decode cL_acts 124 = .ok (.irem, 1) := by decide +kernel
theorem dL_acts_125 : decode cL_acts 125 = .ok (.invokestatic 105, 3) := by decide +kernel
theorem dL_acts_128 : decode cL_acts 128 = .ok (.ireturn, 1) := by decide +kernel
theorem dL_acts_129 : decode cL_acts 129 = .ok (.aload_n 0, 1) := by decide +kernel
theorem dL_acts_130 : decode cL_acts 130 = .ok (.iload 4, 2) := by decide +kernel
theorem dL_acts_132 : decode cL_acts 132 = .ok (.iconst 1, 1) := by decide +kernel
theorem dL_acts_133 : decode cL_acts 133 = .ok (.iload_n 2, 1) := by decide +kernel
theorem dL_acts_134 : decode cL_acts 134 = .ok (.iconst 4, 1) := by decide +kernel
theorem dL_acts_135 : decode cL_acts 135 = .ok (.idiv, 1) := by decide +kernel
theorem dL_acts_136 : decode cL_acts 136 = .ok (.sipush 255, 3) := by decide +kernel
theorem dL_acts_139 : decode cL_acts 139 = .ok (.irem, 1) := by decide +kernel
theorem dL_acts_140 : decode cL_acts 140 = .ok (.iadd, 1) := by decide +kernel
theorem dL_acts_141 : decode cL_acts 141 = .ok (.iload_n 2, 1) := by decide +kernel
theorem dL_acts_142 : decode cL_acts 142 = .ok (.bipush 7, 2) := by decide +kernel
theorem dL_acts_144 : decode cL_acts 144 = .ok (.idiv, 1) := by decide +kernel
theorem dL_acts_145 : decode cL_acts 145 = .ok (.iconst 3, 1) := by decide +kernel
theorem dL_acts_146 : decode cL_acts 146 = .ok (.irem, 1) := by decide +kernel
theorem dL_acts_147 : decode cL_acts 147 = .ok (.ifCond .ne 7, 3) := by decide +kernel
theorem dL_acts_150 : decode cL_acts 150 = .ok (.iconst 1, 1) := by decide +kernel
theorem dL_acts_151 : decode cL_acts 151 = .ok (.goto 4, 3) := by decide +kernel
theorem dL_acts_154 : decode cL_acts 154 = .ok (.iconst 0, 1) := by decide +kernel
theorem dL_acts_155 : decode cL_acts 155 = .ok (.invokestatic 102, 3) := by decide +kernel
theorem dL_acts_158 : decode cL_acts 158 = .ok (.ireturn, 1) := by decide +kernel
set_option maxRecDepth 20000 in
theorem ggL_law_X4_init_h : GoodIn wsL_law [.code yX4_init cX4_init 2 none] := goodIn_r _ [9] (by decide +kernel) (by decide +kernel)
set_option maxRecDepth 20000 in
theorem ggL_law_X4_init_r1 : GoodIn wsL_law wsX4_init_r1 := goodIn_r _ [10, 11, 12, 13, 14, 15, 16, 17, 18, 19, 20, 21, 22, 23, 24, 25, 26, 27, 28, 29, 30, 31, 32, 33] (by decide +kernel) (by decide +kernel)
set_option maxRecDepth 20000 in
theorem ggL_law_X4_init_r2 : GoodIn wsL_law wsX4_init_r2 := goodIn_r _ [34, 35, 36, 37, 38, 39, 40, 41, 42, 43, 44, 45, 46, 47, 48, 49, 50, 51, 52, 53, 54, 55, 56, 57] (by decide +kernel) (by decide +kernel)
set_option maxRecDepth 20000 in
theorem ggL_law_X4_init_r3 : GoodIn wsL_law wsX4_init_r3 := goodIn_r _ [58] (by decide +kernel) (by decide +kernel)
set_option maxRecDepth 20000 in
theorem ggL_law_X4_init_x1 : GoodIn wsL_law wsX10 := goodIn_r _ [468, 469, 470, 471, 472, 473, 474, 475, 476, 477, 478, 479, 480, 481, 482, 483, 484] (by decide +kernel) (by decide +kernel)
set_option maxRecDepth 20000 in
theorem ggL_law_X4_init_x4 : GoodIn wsL_law wsX40 := goodIn_r _ [461, 462, 463, 464, 465, 466, 467] (by decide +kernel) (by decide +kernel)
set_option maxRecDepth 20000 in
theorem ggL_law_X4_init_x0 : GoodIn wsL_law wsX00 := goodIn_r _ [485, 486, 487, 488] (by decide +kernel) (by decide +kernel)
set_option maxRecDepth 20000 in
theorem ggL_law_X4_init_x2 : GoodIn wsL_law wsX20 := goodIn_r _ [489, 490, 491] (by decide +kernel) (by decide +kernel)
set_option maxRecDepth 20000 in
theorem ggL_law_X4_init_x3 : GoodIn wsL_law wsX30 := goodIn_r _ [492, 493, 494, 495, 496, 497, 498] (by decide +kernel) (by decide +kernel)
set_option maxRecDepth 20000 in
theorem ggL_law_X4_init : GoodIn wsL_law wsX4_init := goodIn_cc ggL_law_X4_init_h (goodIn_app (goodIn_app (goodIn_app (goodIn_app (goodIn_app (goodIn_app ggL_law_X4_init_r1 (goodIn_app ggL_law_X4_init_r2 (ggL_law_X4_init_r3))) ggL_law_X4_init_x1) ggL_law_X4_init_x4) ggL_law_X4_init_x0) ggL_law_X4_init_x2) ggL_law_X4_init_x3)
set_option maxRecDepth 20000 in
theorem gL_law_X4_init : GoodIn wsL_law (wsX4_init) := ggL_law_X4_init
set_option maxRecDepth 20000 in
theorem ggL_law_L_undo_h : GoodIn wsL_law [.codeWith yL_undo cL_undo 3 (some .int) [(0, 5, 8, 18)]] := goodIn_r _ [62] (by decide +kernel) (by decide +kernel)
set_option maxRecDepth 20000 in
theorem ggL_law_L_undo_r1 : GoodIn wsL_law wsL_undo_r1 := goodIn_r _ [63, 3, 64, 65, 66, 2, 67, 68, 69, 70, 71, 72, 73, 74, 16, 75, 76, 77, 78, 17, 79, 80, 81, 15] (by decide +kernel) (by decide +kernel)
set_option maxRecDepth 20000 in
theorem ggL_law_L_undo_r2 : GoodIn wsL_law wsL_undo_r2 := goodIn_r _ [82, 34, 83, 84, 85, 86, 87, 88, 89, 90, 36, 91, 37, 92, 38, 39, 40, 42, 93, 94, 95, 96, 97, 98] (by decide +kernel) (by decide +kernel)
set_option maxRecDepth 20000 in
theorem ggL_law_L_undo_r3 : GoodIn wsL_law wsL_undo_r3 := goodIn_r _ [99, 100, 101, 102, 103, 104, 105, 20, 106, 47, 107, 108, 49, 109, 110, 111, 112, 113, 114] (by decide +kernel) (by decide +kernel)
set_option maxRecDepth 20000 in
theorem ggL_law_L_undo_x4 : GoodIn wsL_law wsX40 := goodIn_r _ [461, 462, 463, 464, 465, 466, 467] (by decide +kernel) (by decide +kernel)
set_option maxRecDepth 20000 in
theorem ggL_law_L_undo_x1 : GoodIn wsL_law wsX10 := goodIn_r _ [468, 469, 470, 471, 472, 473, 474, 475, 476, 477, 478, 479, 480, 481, 482, 483, 484] (by decide +kernel) (by decide +kernel)
set_option maxRecDepth 20000 in
theorem ggL_law_L_undo_x0 : GoodIn wsL_law wsX00 := goodIn_r _ [485, 486, 487, 488] (by decide +kernel) (by decide +kernel)
set_option maxRecDepth 20000 in
theorem ggL_law_L_undo : GoodIn wsL_law wsL_undo := goodIn_ca (goodIn_cc ggL_law_L_undo_h (goodIn_app (goodIn_app (goodIn_app (goodIn_app ggL_law_L_undo_r1 (goodIn_app ggL_law_L_undo_r2 (ggL_law_L_undo_r3))) ggL_law_L_undo_x4) ggL_law_L_undo_x1) ggL_law_L_undo_x0)) (goodIn_sub (fun _ h => List.mem_append_left _ (List.mem_append_left _ (List.mem_append_right _ h))) (by decide +kernel))
set_option maxRecDepth 20000 in
theorem gL_law_L_undo : GoodIn wsL_law (va_wsS RL 139 yL_undo wsL_undo) := goodIn_app (goodIn_of _ (by decide +kernel)) ggL_law_L_undo
set_option maxRecDepth 20000 in
theorem ggL_law_L_refused_h : GoodIn wsL_law [.code yL_refused cL_refused 8 (some .boolean)] := goodIn_r _ [117] (by decide +kernel) (by decide +kernel)
set_option maxRecDepth 20000 in
theorem ggL_law_L_refused_r1 : GoodIn wsL_law wsL_refused_r1 := goodIn_r _ [5, 4, 6, 3, 118, 119, 61, 120, 121, 122, 123, 124, 125, 126, 127, 128, 129, 2, 130, 131, 132, 16, 133, 134] (by decide +kernel) (by decide +kernel)
set_option maxRecDepth 20000 in
theorem ggL_law_L_refused_r2 : GoodIn wsL_law wsL_refused_r2 := goodIn_r _ [135, 15, 136, 83, 84, 92, 91, 86, 87, 88, 34, 89, 85, 137, 138, 139, 140, 141, 142, 143, 144, 145, 146, 147] (by decide +kernel) (by decide +kernel)
set_option maxRecDepth 20000 in
theorem ggL_law_L_refused_r3 : GoodIn wsL_law wsL_refused_r3 := goodIn_r _ [148, 149, 150, 151, 152, 153, 154, 155, 156, 157, 158, 159, 160, 161, 37, 42, 162, 163, 164, 165, 166, 167, 168, 169] (by decide +kernel) (by decide +kernel)
