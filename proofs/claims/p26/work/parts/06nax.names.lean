set_option maxRecDepth 20000 in
theorem ggL_isProved_L_guest_r2 : GoodIn wsL_isProved wsL_guest_r2 := goodIn_r _ [34, 62, 63, 27, 64, 65, 66, 67, 68, 69, 70, 71, 28, 72, 73, 74, 75, 76, 77, 78, 79, 80, 81, 82] (by decide +kernel) (by decide +kernel)
set_option maxRecDepth 20000 in
theorem ggL_isProved_L_guest_r3 : GoodIn wsL_isProved wsL_guest_r3 := goodIn_r _ [83, 84, 85, 86, 87, 88, 89, 90, 91, 92, 93, 94, 95, 96, 97, 98, 99] (by decide +kernel) (by decide +kernel)
set_option maxRecDepth 20000 in
theorem ggL_isProved_L_guest_x4 : GoodIn wsL_isProved wsX40 := goodIn_r _ [224, 225, 226, 227, 228, 229, 230] (by decide +kernel) (by decide +kernel)
set_option maxRecDepth 20000 in
theorem ggL_isProved_L_guest_x1 : GoodIn wsL_isProved wsX10 := goodIn_r _ [231, 232, 233, 234, 235, 236, 237, 238, 239, 240, 241, 242, 243, 244, 245, 246, 247] (by decide +kernel) (by decide +kernel)
set_option maxRecDepth 20000 in
theorem ggL_isProved_L_guest_x0 : GoodIn wsL_isProved wsX00 := goodIn_r _ [248, 249, 250, 251] (by decide +kernel) (by decide +kernel)
set_option maxRecDepth 20000 in
theorem ggL_isProved_L_guest : GoodIn wsL_isProved wsL_guest := goodIn_ca (goodIn_ca (goodIn_cc ggL_isProved_L_guest_h (goodIn_app (goodIn_app (goodIn_app (goodIn_app ggL_isProved_L_guest_r1 (goodIn_app ggL_isProved_L_guest_r2 (ggL_isProved_L_guest_r3))) ggL_isProved_L_guest_x4) ggL_isProved_L_guest_x1) ggL_isProved_L_guest_x0)) (goodIn_sub (fun _ h => List.mem_cons_of_mem _ (List.mem_append_left _ (List.mem_append_right _ h))) (by decide +kernel))) (goodIn_sub (fun _ h => List.mem_cons_of_mem _ (List.mem_append_left _ (List.mem_append_left _ (List.mem_append_right _ h)))) (by decide +kernel))
set_option maxRecDepth 20000 in
theorem gL_isProved_L_guest : GoodIn wsL_isProved (va_wsS RL 90 yL_guest wsL_guest) := goodIn_app (goodIn_of _ (by decide +kernel)) ggL_isProved_L_guest
set_option maxRecDepth 20000 in
theorem ggL_isProved_L_undo_h : GoodIn wsL_isProved [.codeWith yL_undo cL_undo 3 (some .int) [(0, 5, 8, 18)]] := goodIn_r _ [215] (by decide +kernel) (by decide +kernel)
set_option maxRecDepth 20000 in
theorem ggL_isProved_L_undo_r1 : GoodIn wsL_isProved wsL_undo_r1 := goodIn_r _ [157, 1, 216, 217, 218, 16, 219, 162, 163, 173, 220, 221, 222, 223, 20, 175, 176, 177, 178, 174, 179, 180, 181, 24] (by decide +kernel) (by decide +kernel)
set_option maxRecDepth 20000 in
theorem ggL_isProved_L_undo_r2 : GoodIn wsL_isProved wsL_undo_r2 := goodIn_r _ [182, 33, 26, 27, 35, 30, 31, 32, 34, 183, 99, 29, 62, 28, 72, 111, 112, 63, 184, 185, 186, 140, 141, 142] (by decide +kernel) (by decide +kernel)
set_option maxRecDepth 20000 in
theorem ggL_isProved_L_undo_r3 : GoodIn wsL_isProved wsL_undo_r3 := goodIn_r _ [187, 188, 189, 190, 191, 192, 193, 76, 194, 131, 195, 78, 79, 87, 135, 136, 137, 138, 139] (by decide +kernel) (by decide +kernel)
set_option maxRecDepth 20000 in
theorem ggL_isProved_L_undo_x4 : GoodIn wsL_isProved wsX40 := goodIn_r _ [224, 225, 226, 227, 228, 229, 230] (by decide +kernel) (by decide +kernel)
set_option maxRecDepth 20000 in
theorem ggL_isProved_L_undo_x1 : GoodIn wsL_isProved wsX10 := goodIn_r _ [231, 232, 233, 234, 235, 236, 237, 238, 239, 240, 241, 242, 243, 244, 245, 246, 247] (by decide +kernel) (by decide +kernel)
set_option maxRecDepth 20000 in
theorem ggL_isProved_L_undo_x0 : GoodIn wsL_isProved wsX00 := goodIn_r _ [248, 249, 250, 251] (by decide +kernel) (by decide +kernel)
set_option maxRecDepth 20000 in
theorem ggL_isProved_L_undo : GoodIn wsL_isProved wsL_undo := goodIn_ca (goodIn_cc ggL_isProved_L_undo_h (goodIn_app (goodIn_app (goodIn_app (goodIn_app ggL_isProved_L_undo_r1 (goodIn_app ggL_isProved_L_undo_r2 (ggL_isProved_L_undo_r3))) ggL_isProved_L_undo_x4) ggL_isProved_L_undo_x1) ggL_isProved_L_undo_x0)) (goodIn_sub (fun _ h => List.mem_cons_of_mem _ (List.mem_append_right _ h)) (by decide +kernel))
set_option maxRecDepth 20000 in
theorem gL_isProved_L_undo : GoodIn wsL_isProved (va_wsS RL 139 yL_undo wsL_undo) := goodIn_app (goodIn_of _ (by decide +kernel)) ggL_isProved_L_undo
theorem dL_isProved_0 : decode cL_isProved 0 = .ok (.aload_n 0, 1) := by decide +kernel
theorem dL_isProved_1 : decode cL_isProved 1 = .ok (.invokestatic 95, 3) := by decide +kernel
theorem dL_isProved_4 : decode cL_isProved 4 = .ok (.lstore_n 3, 1) := by decide +kernel
theorem dL_isProved_5 : decode cL_isProved 5 = .ok (.aload_n 0, 1) := by decide +kernel
theorem dL_isProved_6 : decode cL_isProved 6 = .ok (.invokevirtual 124, 3) := by decide +kernel
theorem dL_isProved_9 : decode cL_isProved 9 = .ok (.istore 5, 2) := by decide +kernel
theorem dL_isProved_11 : decode cL_isProved 11 = .ok (.aload_n 0, 1) := by decide +kernel
theorem dL_isProved_12 : decode cL_isProved 12 = .ok (.iload_n 1, 1) := by decide +kernel
theorem dL_isProved_13 : decode cL_isProved 13 = .ok (.iload_n 2, 1) := by decide +kernel
theorem dL_isProved_14 : decode cL_isProved 14 = .ok (.invokestatic 113, 3) := by decide +kernel
theorem dL_isProved_17 : decode cL_isProved 17 = .ok (.istore 6, 2) := by decide +kernel
theorem dL_isProved_19 : decode cL_isProved 19 = .ok (.aload_n 0, 1) := by decide +kernel
theorem dL_isProved_20 : decode cL_isProved 20 = .ok (.iload_n 1, 1) := by decide +kernel
theorem dL_isProved_21 : decode cL_isProved 21 = .ok (.iload_n 2, 1) := by decide +kernel
theorem dL_isProved_22 : decode cL_isProved 22 = .ok (.invokestatic 142, 3) := by decide +kernel
theorem dL_isProved_25 : decode cL_isProved 25 = .ok (.dstore 7, 2) := by decide +kernel
theorem dL_isProved_27 : decode cL_isProved 27 = .ok (.aload_n 0, 1) := by decide +kernel
theorem dL_isProved_28 : decode cL_isProved 28 = .ok (.iconst 3, 1) := by decide +kernel
theorem dL_isProved_29 : decode cL_isProved 29 = .ok (.invokestatic 85, 3) := by decide +kernel
theorem dL_isProved_32 : decode cL_isProved 32 = .ok (.istore 9, 2) := by decide +kernel
theorem dL_isProved_34 : decode cL_isProved 34 = .ok (.aload_n 0, 1) := by decide +kernel
theorem dL_isProved_35 : decode cL_isProved 35 = .ok (.iload_n 1, 1) := by decide +kernel
theorem dL_isProved_36 : decode cL_isProved 36 = .ok (.iload_n 2, 1) := by decide +kernel
theorem dL_isProved_37 : decode cL_isProved 37 = .ok (.invokestatic 105, 3) := by decide +kernel
theorem dL_isProved_40 : decode cL_isProved 40 = .ok (.istore 10, 2) := by decide +kernel
theorem dL_isProved_42 : decode cL_isProved 42 = .ok (.dload 7, 2) := by decide +kernel
theorem dL_isProved_44 : decode cL_isProved 44 = .ok (.iload 6, 2) := by decide +kernel
theorem dL_isProved_46 : decode cL_isProved 46 = .ok (.iload 6, 2) := by decide +kernel
theorem dL_isProved_48 : decode cL_isProved 48 = .ok (.imul, 1) := by decide +kernel
theorem dL_isProved_49 : decode cL_isProved 49 = .ok (.iload 5, 2) := by decide +kernel
theorem dL_isProved_51 : decode cL_isProved 51 = .ok (.iload 6, 2) := by decide +kernel
theorem dL_isProved_53 : decode cL_isProved 53 = .ok (.isub, 1) := by decide +kernel
theorem dL_isProved_54 : decode cL_isProved 54 = .ok (.iload 5, 2) := by decide +kernel
theorem dL_isProved_56 : decode cL_isProved 56 = .ok (.iload 6, 2) := by decide +kernel
theorem dL_isProved_58 : decode cL_isProved 58 = .ok (.isub, 1) := by decide +kernel
theorem dL_isProved_59 : decode cL_isProved 59 = .ok (.imul, 1) := by decide +kernel
theorem dL_isProved_60 : decode cL_isProved 60 = .ok (.iadd, 1) := by decide +kernel
theorem dL_isProved_61 : decode cL_isProved 61 = .ok (.i2d, 1) := by decide +kernel
theorem dL_isProved_62 : decode cL_isProved 62 = .ok (.iload 5, 2) := by decide +kernel
theorem dL_isProved_64 : decode cL_isProved 64 = .ok (.i2d, 1) := by decide +kernel
theorem dL_isProved_65 : decode cL_isProved 65 = .ok (.ddiv, 1) := by decide +kernel
theorem dL_isProved_66 : decode cL_isProved 66 = .ok (.dcmp .l, 1) := by decide +kernel
theorem dL_isProved_67 : decode cL_isProved 67 = .ok (.ifCond .ne 7, 3) := by decide +kernel
theorem dL_isProved_70 : decode cL_isProved 70 = .ok (.iconst 1, 1) := by decide +kernel
theorem dL_isProved_71 : decode cL_isProved 71 = .ok (.goto 4, 3) := by decide +kernel
theorem dL_isProved_74 : decode cL_isProved 74 = .ok (.iconst 0, 1) := by decide +kernel
theorem dL_isProved_75 : decode cL_isProved 75 = .ok (.istore 11, 2) := by decide +kernel
theorem dL_isProved_77 : decode cL_isProved 77 = .ok (.iload 10, 2) := by decide +kernel
theorem dL_isProved_79 : decode cL_isProved 79 = .ok (.ldc 20, 2) := by decide +kernel
theorem dL_isProved_81 : decode cL_isProved 81 = .ok (.if_icmp .ne 23, 3) := by decide +kernel
theorem dL_isProved_84 : decode cL_isProved 84 = .ok (.iload 11, 2) := by decide +kernel
theorem dL_isProved_86 : decode cL_isProved 86 = .ok (.ifCond .eq 16, 3) := by decide +kernel
theorem dL_isProved_89 : decode cL_isProved 89 = .ok (.aload_n 0, 1) := by decide +kernel
theorem dL_isProved_90 : decode cL_isProved 90 = .ok (.invokestatic 95, 3) := by decide +kernel
theorem dL_isProved_93 : decode cL_isProved 93 = .ok (.lload_n 3, 1) := by decide +kernel
theorem dL_isProved_94 : decode cL_isProved 94 = .ok (.lcmp, 1) := by decide +kernel
theorem dL_isProved_95 : decode cL_isProved 95 = .ok (.ifCond .ne 7, 3) := by decide +kernel
theorem dL_isProved_98 : decode cL_isProved 98 = .ok (.iconst 1, 1) := by decide +kernel
theorem dL_isProved_99 : decode cL_isProved 99 = .ok (.goto 4, 3) := by decide +kernel
theorem dL_isProved_102 : decode cL_isProved 102 = .ok (.iconst 0, 1) := by decide +kernel
theorem dL_isProved_103 : decode cL_isProved 103 = .ok (.ireturn, 1) := by decide +kernel
theorem dL_isProved_104 : decode cL_isProved 104 = .ok (.iload 11, 2) := by decide +kernel
theorem dL_isProved_106 : decode cL_isProved 106 = .ok (.ifCond .eq 86, 3) := by decide +kernel
theorem dL_isProved_109 : decode cL_isProved 109 = .ok (.aload_n 0, 1) := by decide +kernel
theorem dL_isProved_110 : decode cL_isProved 110 = .ok (.invokevirtual 124, 3) := by decide +kernel
theorem dL_isProved_113 : decode cL_isProved 113 = .ok (.iload 10, 2) := by decide +kernel
theorem dL_isProved_115 : decode cL_isProved 115 = .ok (.iconst 1, 1) := by decide +kernel
theorem dL_isProved_116 : decode cL_isProved 116 = .ok (.if_icmp .ne 8, 3) := by decide +kernel
theorem dL_isProved_119 : decode cL_isProved 119 = .ok (.iload 6, 2) := by decide +kernel
theorem dL_isProved_121 : decode cL_isProved 121 = .ok (.goto 8, 3) := by decide +kernel
theorem dL_isProved_124 : decode cL_isProved 124 = .ok (.iload 5, 2) := by decide +kernel
theorem dL_isProved_126 : decode cL_isProved 126 = .ok (.iload 6, 2) := by decide +kernel
theorem dL_isProved_128 : decode cL_isProved 128 = .ok (.isub, 1) := by decide +kernel
theorem dL_isProved_129 : decode cL_isProved 129 = .ok (.if_icmp .ne 63, 3) := by decide +kernel
theorem dL_isProved_132 : decode cL_isProved 132 = .ok (.aload_n 0, 1) := by decide +kernel
theorem dL_isProved_133 : decode cL_isProved 133 = .ok (.invokevirtual 124, 3) := by decide +kernel
theorem dL_isProved_136 : decode cL_isProved 136 = .ok (.ifCond .le 56, 3) := by decide +kernel
theorem dL_isProved_139 : decode cL_isProved 139 = .ok (.aload_n 0, 1) := by decide +kernel
theorem dL_isProved_140 : decode cL_isProved 140 = .ok (.iconst 3, 1) := by decide +kernel
theorem dL_isProved_141 : decode cL_isProved 141 = .ok (.invokestatic 85, 3) := by decide +kernel
theorem dL_isProved_144 : decode cL_isProved 144 = .ok (.iload 9, 2) := by decide +kernel
theorem dL_isProved_146 : decode cL_isProved 146 = .ok (.iconst 1, 1) := by decide +kernel
theorem dL_isProved_147 : decode cL_isProved 147 = .ok (.iadd, 1) := by decide +kernel
theorem dL_isProved_148 : decode cL_isProved 148 = .ok (.if_icmp .ne 44, 3) := by decide +kernel
theorem dL_isProved_151 : decode cL_isProved 151 = .ok (.aload_n 0, 1) := by decide +kernel
theorem dL_isProved_152 : decode cL_isProved 152 = .ok (.iload_n 1, 1) := by decide +kernel
theorem dL_isProved_153 : decode cL_isProved 153 = .ok (.iconst 5, 1) := by decide +kernel
theorem dL_isProved_154 : decode cL_isProved 154 = .ok (.invokestatic 90, 3) := by decide +kernel
theorem dL_isProved_157 : decode cL_isProved 157 = .ok (.iload_n 2, 1) := by decide +kernel
theorem dL_isProved_158 : decode cL_isProved 158 = .ok (.ishr, 1) := by decide +kernel
theorem dL_isProved_159 : decode cL_isProved 159 = .ok (.iconst 1, 1) := by decide +kernel
theorem dL_isProved_160 : decode cL_isProved 160 = .ok (.iand, 1) := by decide +kernel
theorem dL_isProved_161 : decode cL_isProved 161 = .ok (.iload 10, 2) := by decide +kernel
theorem dL_isProved_163 : decode cL_isProved 163 = .ok (.if_icmp .ne 29, 3) := by decide +kernel
theorem dL_isProved_166 : decode cL_isProved 166 = .ok (.aload_n 0, 1) := by decide +kernel
theorem dL_isProved_167 : decode cL_isProved 167 = .ok (.iload_n 1, 1) := by decide +kernel
theorem dL_isProved_168 : decode cL_isProved 168 = .ok (.iconst 4, 1) := by decide +kernel
theorem dL_isProved_169 : decode cL_isProved 169 = .ok (.invokestatic 90, 3) := by decide +kernel
theorem dL_isProved_172 : decode cL_isProved 172 = .ok (.iload_n 2, 1) := by decide +kernel
theorem dL_isProved_173 : decode cL_isProved 173 = .ok (.ishr, 1) := by decide +kernel
theorem dL_isProved_174 : decode cL_isProved 174 = .ok (.iconst 1, 1) := by decide +kernel
theorem dL_isProved_175 : decode cL_isProved 175 = .ok (.iand, 1) := by decide +kernel
theorem dL_isProved_176 : decode cL_isProved 176 = .ok (.iload 10, 2) := by decide +kernel
theorem dL_isProved_178 : decode cL_isProved 178 = .ok (.if_icmp .ne 14, 3) := by decide +kernel
theorem dL_isProved_181 : decode cL_isProved 181 = .ok (.aload_n 0, 1) := by decide +kernel
theorem dL_isProved_182 : decode cL_isProved 182 = .ok (.invokestatic 139, 3) := by decide +kernel
theorem dL_isProved_185 : decode cL_isProved 185 = .ok (.ifCond .lt 7, 3) := by decide +kernel
theorem dL_isProved_188 : decode cL_isProved 188 = .ok (.iconst 1, 1) := by decide +kernel
theorem dL_isProved_189 : decode cL_isProved 189 = .ok (.goto 4, 3) := by decide +kernel
theorem dL_isProved_192 : decode cL_isProved 192 = .ok (.iconst 0, 1) := by decide +kernel
theorem dL_isProved_193 : decode cL_isProved 193 = .ok (.istore 11, 2) := by decide +kernel
theorem dL_isProved_195 : decode cL_isProved 195 = .ok (.iload 11, 2) := by decide +kernel
theorem dL_isProved_197 : decode cL_isProved 197 = .ok (.ifCond .eq 16, 3) := by decide +kernel
theorem dL_isProved_200 : decode cL_isProved 200 = .ok (.aload_n 0, 1) := by decide +kernel
theorem dL_isProved_201 : decode cL_isProved 201 = .ok (.invokestatic 95, 3) := by decide +kernel
theorem dL_isProved_204 : decode cL_isProved 204 = .ok (.lload_n 3, 1) := by decide +kernel
theorem dL_isProved_205 : decode cL_isProved 205 = .ok (.lcmp, 1) := by decide +kernel
theorem dL_isProved_206 : decode cL_isProved 206 = .ok (.ifCond .ne 7, 3) := by decide +kernel
theorem dL_isProved_209 : decode cL_isProved 209 = .ok (.iconst 1, 1) := by decide +kernel
theorem dL_isProved_210 : decode cL_isProved 210 = .ok (.goto 4, 3) := by decide +kernel
theorem dL_isProved_213 : decode cL_isProved 213 = .ok (.iconst 0, 1) := by decide +kernel
theorem dL_isProved_214 : decode cL_isProved 214 = .ok (.ireturn, 1) := by decide +kernel
set_option maxRecDepth 20000 in
theorem ggL_isAccused_L_value : GoodIn wsL_isAccused wsL_value := goodIn_ca (goodIn_r _ [4, 5, 6, 7, 8, 9, 10, 11, 12, 13, 14, 15, 16, 17, 18, 19, 20, 21, 22, 23, 24, 25, 26, 27, 28, 29, 30, 31, 32, 33, 34, 35, 36, 188, 189, 190, 191, 192, 193, 194, 195, 196, 197, 198, 199, 200, 201, 202, 203, 204, 205, 206, 207, 208, 209, 210, 211] (by decide +kernel) (by decide +kernel)) (goodIn_sub (fun _ h => List.mem_cons_of_mem _ (List.mem_append_left _ (List.mem_append_left _ (List.mem_append_right _ h)))) (by decide +kernel))
set_option maxRecDepth 20000 in
theorem gL_isAccused_L_value : GoodIn wsL_isAccused (va_wsS RL 85 yL_value wsL_value) := goodIn_app (goodIn_of _ (by decide +kernel)) ggL_isAccused_L_value
set_option maxRecDepth 20000 in
theorem ggL_isAccused_L_print_h : GoodIn wsL_isAccused [.code yL_print cL_print 4 (some .long)] := goodIn_r _ [39] (by decide +kernel) (by decide +kernel)
set_option maxRecDepth 20000 in
theorem ggL_isAccused_L_print_r1 : GoodIn wsL_isAccused wsL_print_r1 := goodIn_r _ [40, 41, 1, 2, 3, 4, 5, 6, 7, 8, 9, 10, 11, 12, 13, 14, 15, 16, 17, 18, 19, 20, 21, 22] (by decide +kernel) (by decide +kernel)
set_option maxRecDepth 20000 in
theorem ggL_isAccused_L_print_r2 : GoodIn wsL_isAccused wsL_print_r2 := goodIn_r _ [23, 24, 25, 26, 27, 28, 29, 30, 31, 32, 33, 34, 35, 36, 42, 43, 44, 45, 46, 47, 48, 49, 50, 51] (by decide +kernel) (by decide +kernel)
