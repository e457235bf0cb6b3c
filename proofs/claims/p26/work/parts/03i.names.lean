set_option maxRecDepth 20000 in
theorem ggL_isProved_L_dealsHeld : GoodIn wsL_isProved wsL_dealsHeld := goodIn_ca (goodIn_r _ [119, 46, 47, 120, 121, 122, 16, 123, 52, 53, 20, 54, 55, 56, 24, 57, 26, 124, 125, 126, 127, 128, 129, 76, 130, 131, 132, 133, 134, 135, 136, 137, 138, 78, 139, 140, 141, 142, 224, 225, 226, 227, 228, 229, 230, 231, 232, 233, 234, 235, 236, 237, 238, 239, 240, 241, 242, 243, 244, 245, 246, 247, 248, 249, 250, 251] (by decide +kernel) (by decide +kernel)) (goodIn_sub (fun _ h => List.mem_cons_of_mem _ (List.mem_append_left _ (List.mem_append_right _ h))) (by decide +kernel))
set_option maxRecDepth 20000 in
theorem gL_isProved_L_dealsHeld : GoodIn wsL_isProved (va_wsS RL 113 yL_dealsHeld wsL_dealsHeld) := goodIn_app (goodIn_of _ (by decide +kernel)) ggL_isProved_L_dealsHeld
set_option maxRecDepth 20000 in
theorem ggL_isProved_L_leftByProof : GoodIn wsL_isProved wsL_leftByProof := goodIn_ca (goodIn_r _ [145, 46, 146, 147, 148, 149, 16, 150, 52, 53, 20, 54, 55, 56, 24, 57, 26, 124, 125, 126, 127, 128, 129, 76, 130, 131, 132, 133, 134, 135, 136, 137, 138, 78, 139, 140, 141, 142, 151, 152, 153, 224, 225, 226, 227, 228, 229, 230, 231, 232, 233, 234, 235, 236, 237, 238, 239, 240, 241, 242, 243, 244, 245, 246, 247, 248, 249, 250, 251] (by decide +kernel) (by decide +kernel)) (goodIn_sub (fun _ h => List.mem_cons_of_mem _ (List.mem_append_left _ (List.mem_append_right _ h))) (by decide +kernel))
set_option maxRecDepth 20000 in
theorem gL_isProved_L_leftByProof : GoodIn wsL_isProved (va_wsS RL 142 yL_leftByProof wsL_leftByProof) := goodIn_app (goodIn_of _ (by decide +kernel)) ggL_isProved_L_leftByProof
set_option maxRecDepth 20000 in
theorem ggL_isProved_L_value : GoodIn wsL_isProved wsL_value := goodIn_ca (goodIn_r _ [10, 11, 12, 13, 14, 15, 16, 17, 18, 19, 20, 21, 22, 23, 24, 25, 26, 27, 28, 29, 30, 31, 32, 33, 34, 35, 36, 37, 38, 39, 40, 41, 42, 224, 225, 226, 227, 228, 229, 230, 231, 232, 233, 234, 235, 236, 237, 238, 239, 240, 241, 242, 243, 244, 245, 246, 247] (by decide +kernel) (by decide +kernel)) (goodIn_sub (fun _ h => List.mem_cons_of_mem _ (List.mem_append_left _ (List.mem_append_left _ (List.mem_append_right _ h)))) (by decide +kernel))
set_option maxRecDepth 20000 in
theorem gL_isProved_L_value : GoodIn wsL_isProved (va_wsS RL 85 yL_value wsL_value) := goodIn_app (goodIn_of _ (by decide +kernel)) ggL_isProved_L_value
set_option maxRecDepth 20000 in
theorem ggL_isProved_L_prove : GoodIn wsL_isProved wsL_prove := goodIn_ca (goodIn_ca (goodIn_r _ [156, 46, 157, 47, 1, 158, 159, 160, 16, 161, 52, 53, 162, 163, 20, 54, 55, 56, 24, 57, 26, 124, 125, 126, 164, 165, 166, 167, 27, 34, 168, 169, 170, 171, 172, 173, 174, 175, 176, 177, 178, 179, 180, 181, 182, 33, 35, 30, 31, 32, 183, 99, 29, 62, 28, 72, 111, 112, 63, 184, 185, 186, 140, 141, 142, 187, 188, 189, 190, 191, 192, 193, 76, 194, 131, 195, 78, 79, 87, 135, 136, 137, 138, 139, 196, 197, 198, 199, 95, 96, 97, 98, 200, 201, 202, 203, 132, 133, 134, 204, 205, 206, 207, 208, 209, 210, 211, 212, 224, 225, 226, 227, 228, 229, 230, 231, 232, 233, 234, 235, 236, 237, 238, 239, 240, 241, 242, 243, 244, 245, 246, 247, 248, 249, 250, 251] (by decide +kernel) (by decide +kernel)) (goodIn_sub (fun _ h => List.mem_cons_of_mem _ (List.mem_append_left _ (List.mem_append_right _ h))) (by decide +kernel))) (goodIn_sub (fun _ h => List.mem_cons_of_mem _ (List.mem_append_right _ h)) (by decide +kernel))
set_option maxRecDepth 20000 in
theorem gL_isProved_L_prove : GoodIn wsL_isProved (va_wsS RL 105 yL_prove wsL_prove) := goodIn_app (goodIn_of _ (by decide +kernel)) ggL_isProved_L_prove
set_option maxRecDepth 20000 in
theorem ggL_isProved_L_guest : GoodIn wsL_isProved wsL_guest := goodIn_ca (goodIn_ca (goodIn_r _ [45, 46, 11, 47, 12, 48, 49, 50, 16, 51, 52, 53, 18, 19, 20, 54, 55, 56, 24, 57, 26, 58, 59, 60, 61, 34, 62, 63, 27, 64, 65, 66, 67, 68, 69, 70, 71, 28, 72, 73, 74, 75, 76, 77, 78, 79, 80, 81, 82, 83, 84, 85, 86, 87, 88, 89, 90, 91, 92, 93, 94, 95, 96, 97, 98, 99, 224, 225, 226, 227, 228, 229, 230, 231, 232, 233, 234, 235, 236, 237, 238, 239, 240, 241, 242, 243, 244, 245, 246, 247, 248, 249, 250, 251] (by decide +kernel) (by decide +kernel)) (goodIn_sub (fun _ h => List.mem_cons_of_mem _ (List.mem_append_left _ (List.mem_append_right _ h))) (by decide +kernel))) (goodIn_sub (fun _ h => List.mem_cons_of_mem _ (List.mem_append_left _ (List.mem_append_left _ (List.mem_append_right _ h)))) (by decide +kernel))
set_option maxRecDepth 20000 in
theorem gL_isProved_L_guest : GoodIn wsL_isProved (va_wsS RL 90 yL_guest wsL_guest) := goodIn_app (goodIn_of _ (by decide +kernel)) ggL_isProved_L_guest
set_option maxRecDepth 20000 in
theorem ggL_isProved_L_undo : GoodIn wsL_isProved wsL_undo := goodIn_ca (goodIn_r _ [215, 157, 1, 216, 217, 218, 16, 219, 162, 163, 173, 220, 221, 222, 223, 20, 175, 176, 177, 178, 174, 179, 180, 181, 24, 182, 33, 26, 27, 35, 30, 31, 32, 34, 183, 99, 29, 62, 28, 72, 111, 112, 63, 184, 185, 186, 140, 141, 142, 187, 188, 189, 190, 191, 192, 193, 76, 194, 131, 195, 78, 79, 87, 135, 136, 137, 138, 139, 224, 225, 226, 227, 228, 229, 230, 231, 232, 233, 234, 235, 236, 237, 238, 239, 240, 241, 242, 243, 244, 245, 246, 247, 248, 249, 250, 251] (by decide +kernel) (by decide +kernel)) (goodIn_sub (fun _ h => List.mem_cons_of_mem _ (List.mem_append_right _ h)) (by decide +kernel))
set_option maxRecDepth 20000 in
theorem gL_isProved_L_undo : GoodIn wsL_isProved (va_wsS RL 139 yL_undo wsL_undo) := goodIn_app (goodIn_of _ (by decide +kernel)) ggL_isProved_L_undo
theorem dL_isProved_0 : decode cL_isProved 0 = .ok (.aload_n 0, 1) := by decide +kernel
theorem dL_isProved_1 : decode cL_isProved 1 = .ok (.invokestatic 95, 3) := by decide +kernel
theorem dL_isProved_4 : decode cL_isProved 4 = .ok (.lstore_n 3, 1) := by decide +kernel
theorem dL_isProved_5 : decode cL_isProved 5 = .ok (.aload_n 0, 1) := by decide +kernel
theorem dL_isProved_6 : decode cL_isProved 6 = .ok (.invokevirtual 124, 3) := by decide +kernel
theorem dL_isProved_9 : decode cL_isProved 9 = .ok (.istore 5, 2) := by decide +kernel
theorem dL_isProved_11 : decode cL_isProved 11 = .ok (.aload_n 0, 1) := by decide +kernel
theorem dL_isProved_12 : decode cL_isProved 12 = .ok (.iload_n 1, 1) := by decide +kernel
theorem dL_isProved_13 : decode cL_isProved 13 = .ok (.iload_n 2, 1) := by decide +kernel
theorem dL_isProved_14 : decode cL_isProved 14 = .ok (.invokestatic 113, 3) := by decide +kernel
theorem dL_isProved_17 : decode cL_isProved 17 = .ok (.istore 6, 2) := by decide +kernel
theorem dL_isProved_19 : decode cL_isProved 19 = .ok (.aload_n 0, 1) := by decide +kernel
theorem dL_isProved_20 : decode cL_isProved 20 = .ok (.iload_n 1, 1) := by decide +kernel
theorem dL_isProved_21 : decode cL_isProved 21 = .ok (.iload_n 2, 1) := by decide +kernel
theorem dL_isProved_22 : decode cL_isProved 22 = .ok (.invokestatic 142, 3) := by decide +kernel
theorem dL_isProved_25 : decode cL_isProved 25 = .ok (.dstore 7, 2) := by decide +kernel
theorem dL_isProved_27 : decode cL_isProved 27 = .ok (.aload_n 0, 1) := by decide +kernel
theorem dL_isProved_28 : decode cL_isProved 28 = .ok (.iconst 3, 1) := by decide +kernel
theorem dL_isProved_29 : decode cL_isProved 29 = .ok (.invokestatic 85, 3) := by decide +kernel
theorem dL_isProved_32 : decode cL_isProved 32 = .ok (.istore 9, 2) := by decide +kernel
theorem dL_isProved_34 : decode cL_isProved 34 = .ok (.aload_n 0, 1) := by decide +kernel
theorem dL_isProved_35 : decode cL_isProved 35 = .ok (.iload_n 1, 1) := by decide +kernel
theorem dL_isProved_36 : decode cL_isProved 36 = .ok (.iload_n 2, 1) := by decide +kernel
theorem dL_isProved_37 : decode cL_isProved 37 = .ok (.invokestatic 105, 3) := by decide +kernel
theorem dL_isProved_40 : decode cL_isProved 40 = .ok (.istore 10, 2) := by decide +kernel
theorem dL_isProved_42 : decode cL_isProved 42 = .ok (.dload 7, 2) := by decide +kernel
theorem dL_isProved_44 : decode cL_isProved 44 = .ok (.iload 6, 2) := by decide +kernel
theorem dL_isProved_46 : decode cL_isProved 46 = .ok (.iload 6, 2) := by decide +kernel
theorem dL_isProved_48 : decode cL_isProved 48 = .ok (.imul, 1) := by decide +kernel
theorem dL_isProved_49 : decode cL_isProved 49 = .ok (.iload 5, 2) := by decide +kernel
theorem dL_isProved_51 : decode cL_isProved 51 = .ok (.iload 6, 2) := by decide +kernel
theorem dL_isProved_53 : decode cL_isProved 53 = .ok (.isub, 1) := by decide +kernel
theorem dL_isProved_54 : decode cL_isProved 54 = .ok (.iload 5, 2) := by decide +kernel
theorem dL_isProved_56 : decode cL_isProved 56 = .ok (.iload 6, 2) := by decide +kernel
theorem dL_isProved_58 : decode cL_isProved 58 = .ok (.isub, 1) := by decide +kernel
theorem dL_isProved_59 : decode cL_isProved 59 = .ok (.imul, 1) := by decide +kernel
theorem dL_isProved_60 : decode cL_isProved 60 = .ok (.iadd, 1) := by decide +kernel
theorem dL_isProved_61 : decode cL_isProved 61 = .ok (.i2d, 1) := by decide +kernel
theorem dL_isProved_62 : decode cL_isProved 62 = .ok (.iload 5, 2) := by decide +kernel
theorem dL_isProved_64 : decode cL_isProved 64 = .ok (.i2d, 1) := by decide +kernel
theorem dL_isProved_65 : decode cL_isProved 65 = .ok (.ddiv, 1) := by decide +kernel
theorem dL_isProved_66 : decode cL_isProved 66 = .ok (.dcmp .l, 1) := by decide +kernel
theorem dL_isProved_67 : decode cL_isProved 67 = .ok (.ifCond .ne 7, 3) := by decide +kernel
theorem dL_isProved_70 : decode cL_isProved 70 = .ok (.iconst 1, 1) := by decide +kernel
theorem dL_isProved_71 : decode cL_isProved 71 = .ok (.goto 4, 3) := by decide +kernel
theorem dL_isProved_74 : decode cL_isProved 74 = .ok (.iconst 0, 1) := by decide +kernel
theorem dL_isProved_75 : decode cL_isProved 75 = .ok (.istore 11, 2) := by decide +kernel
theorem dL_isProved_77 : decode cL_isProved 77 = .ok (.iload 10, 2) := by decide +kernel
theorem dL_isProved_79 : decode cL_isProved 79 = .ok (.ldc 20, 2) := by decide +kernel
theorem dL_isProved_81 : decode cL_isProved 81 = .ok (.if_icmp .ne 23, 3) := by decide +kernel
theorem dL_isProved_84 : decode cL_isProved 84 = .ok (.iload 11, 2) := by decide +kernel
theorem dL_isProved_86 : decode cL_isProved 86 = .ok (.ifCond .eq 16, 3) := by decide +kernel
theorem dL_isProved_89 : decode cL_isProved 89 = .ok (.aload_n 0, 1) := by decide +kernel
theorem dL_isProved_90 : decode cL_isProved 90 = .ok (.invokestatic 95, 3) := by decide +kernel
theorem dL_isProved_93 : decode cL_isProved 93 = .ok (.lload_n 3, 1) := by decide +kernel
theorem dL_isProved_94 : decode cL_isProved 94 = .ok (.lcmp, 1) := by decide +kernel
theorem dL_isProved_95 : decode cL_isProved 95 = .ok (.ifCond .ne 7, 3) := by decide +kernel
theorem dL_isProved_98 : decode cL_isProved 98 = .ok (.iconst 1, 1) := by decide +kernel
theorem dL_isProved_99 : decode cL_isProved 99 = .ok (.goto 4, 3) := by decide +kernel
theorem dL_isProved_102 : decode cL_isProved 102 = .ok (.iconst 0, 1) := by decide +kernel
theorem dL_isProved_103 : decode cL_isProved 103 = .ok (.ireturn, 1) := by decide +kernel
theorem dL_isProved_104 : decode cL_isProved 104 = .ok (.iload 11, 2) := by decide +kernel
theorem dL_isProved_106 : decode cL_isProved 106 = .ok (.ifCond .eq 86, 3) := by decide +kernel
theorem dL_isProved_109 : decode cL_isProved 109 = .ok (.aload_n 0, 1) := by decide +kernel
theorem dL_isProved_110 : decode cL_isProved 110 = .ok (.invokevirtual 124, 3) := by decide +kernel
theorem dL_isProved_113 : decode cL_isProved 113 = .ok (.iload 10, 2) := by decide +kernel
theorem dL_isProved_115 : decode cL_isProved 115 = .ok (.iconst 1, 1) := by decide +kernel
theorem dL_isProved_116 : decode cL_isProved 116 = .ok (.if_icmp .ne 8, 3) := by decide +kernel
theorem dL_isProved_119 : decode cL_isProved 119 = .ok (.iload 6, 2) := by decide +kernel
theorem dL_isProved_121 : decode cL_isProved 121 = .ok (.goto 8, 3) := by decide +kernel
theorem dL_isProved_124 : decode cL_isProved 124 = .ok (.iload 5, 2) := by decide +kernel
theorem dL_isProved_126 : decode cL_isProved 126 = .ok (.iload 6, 2) := by decide +kernel
theorem dL_isProved_128 : decode cL_isProved 128 = .ok (.isub, 1) := by decide +kernel
theorem dL_isProved_129 : decode cL_isProved 129 = .ok (.if_icmp .ne 63, 3) := by decide +kernel
theorem dL_isProved_132 : decode cL_isProved 132 = .ok (.aload_n 0, 1) := by decide +kernel
theorem dL_isProved_133 : decode cL_isProved 133 = .ok (.invokevirtual 124, 3) := by decide +kernel
theorem dL_isProved_136 : decode cL_isProved 136 = .ok (.ifCond .le 56, 3) := by decide +kernel
theorem dL_isProved_139 : decode cL_isProved 139 = .ok (.aload_n 0, 1) := by decide +kernel
theorem dL_isProved_140 : decode cL_isProved 140 = .ok (.iconst 3, 1) := by decide +kernel
theorem dL_isProved_141 : decode cL_isProved 141 = .ok (.invokestatic 85, 3) := by decide +kernel
theorem dL_isProved_144 : decode cL_isProved 144 = .ok (.iload 9, 2) := by decide +kernel
theorem dL_isProved_146 : decode cL_isProved 146 = .ok (.iconst 1, 1) := by decide +kernel
theorem dL_isProved_147 : decode cL_isProved 147 = .ok (.iadd, 1) := by decide +kernel
theorem dL_isProved_148 : decode cL_isProved 148 = .ok (.if_icmp .ne 44, 3) := by decide +kernel
theorem dL_isProved_151 : decode cL_isProved 151 = .ok (.aload_n 0, 1) := by decide +kernel
theorem dL_isProved_152 : decode cL_isProved 152 = .ok (.iload_n 1, 1) := by decide +kernel
theorem dL_isProved_153 : decode cL_isProved 153 = .ok (.iconst 5, 1) := by decide +kernel
theorem dL_isProved_154 : decode cL_isProved 154 = .ok (.invokestatic 90, 3) := by decide +kernel
theorem dL_isProved_157 : decode cL_isProved 157 = .ok (.iload_n 2, 1) := by decide +kernel
theorem dL_isProved_158 : decode cL_isProved 158 = .ok (.ishr, 1) := by decide +kernel
theorem dL_isProved_159 : decode cL_isProved 159 = .ok (.iconst 1, 1) := by decide +kernel
theorem dL_isProved_160 : decode cL_isProved 160 = .ok (.iand, 1) := by decide +kernel
theorem dL_isProved_161 : decode cL_isProved 161 = .ok (.iload 10, 2) := by decide +kernel
theorem dL_isProved_163 : decode cL_isProved 163 = .ok (.if_icmp .ne 29, 3) := by decide +kernel
theorem dL_isProved_166 : decode cL_isProved 166 = .ok (.aload_n 0, 1) := by decide +kernel
theorem dL_isProved_167 : decode cL_isProved 167 = .ok (.iload_n 1, 1) := by decide +kernel
theorem dL_isProved_168 : decode cL_isProved 168 = .ok (.iconst 4, 1) := by decide +kernel
theorem dL_isProved_169 : decode cL_isProved 169 = .ok (.invokestatic 90, 3) := by decide +kernel
theorem dL_isProved_172 : decode cL_isProved 172 = .ok (.iload_n 2, 1) := by decide +kernel
theorem dL_isProved_173 : decode cL_isProved 173 = .ok (.ishr, 1) := by decide +kernel
theorem dL_isProved_174 : decode cL_isProved 174 = .ok (.iconst 1, 1) := by decide +kernel
theorem dL_isProved_175 : decode cL_isProved 175 = .ok (.iand, 1) := by decide +kernel
theorem dL_isProved_176 : decode cL_isProved 176 = .ok (.iload 10, 2) := by decide +kernel
theorem dL_isProved_178 : decode cL_isProved 178 = .ok (.if_icmp .ne 14, 3) := by decide +kernel
theorem dL_isProved_181 : decode cL_isProved 181 = .ok (.aload_n 0, 1) := by decide +kernel
theorem dL_isProved_182 : decode cL_isProved 182 = .ok (.invokestatic 139, 3) := by decide +kernel
theorem dL_isProved_185 : decode cL_isProved 185 = .ok (.ifCond .lt 7, 3) := by decide +kernel
theorem dL_isProved_188 : decode cL_isProved 188 = .ok (.iconst 1, 1) := by decide +kernel
theorem dL_isProved_189 : decode cL_isProved 189 = .ok (.goto 4, 3) := by decide +kernel
theorem dL_isProved_192 : decode cL_isProved 192 = .ok (.iconst 0, 1) := by decide +kernel
theorem dL_isProved_193 : decode cL_isProved 193 = .ok (.istore 11, 2) := by decide +kernel
theorem dL_isProved_195 : decode cL_isProved 195 = .ok (.iload 11, 2) := by decide +kernel
theorem dL_isProved_197 : decode cL_isProved 197 = .ok (.ifCond .eq 16, 3) := by decide +kernel
theorem dL_isProved_200 : decode cL_isProved 200 = .ok (.aload_n 0, 1) := by decide +kernel
theorem dL_isProved_201 : decode cL_isProved 201 = .ok (.invokestatic 95, 3) := by decide +kernel
theorem dL_isProved_204 : decode cL_isProved 204 = .ok (.lload_n 3, 1) := by decide +kernel
theorem dL_isProved_205 : decode cL_isProved 205 = .ok (.lcmp, 1) := by decide +kernel
theorem dL_isProved_206 : decode cL_isProved 206 = .ok (.ifCond .ne 7, 3) := by decide +kernel
theorem dL_isProved_209 : decode cL_isProved 209 = .ok (.iconst 1, 1) := by decide +kernel
theorem dL_isProved_210 : decode cL_isProved 210 = .ok (.goto 4, 3) := by decide +kernel
theorem dL_isProved_213 : decode cL_isProved 213 = .ok (.iconst 0, 1) := by decide +kernel
theorem dL_isProved_214 : decode cL_isProved 214 = .ok (.ireturn, 1) := by decide +kernel
set_option maxRecDepth 20000 in
theorem ggL_isAccused_L_value : GoodIn wsL_isAccused wsL_value := goodIn_ca (goodIn_r _ [4, 5, 6, 7, 8, 9, 10, 11, 12, 13, 14, 15, 16, 17, 18, 19, 20, 21, 22, 23, 24, 25, 26, 27, 28, 29, 30, 31, 32, 33, 34, 35, 36, 188, 189, 190, 191, 192, 193, 194, 195, 196, 197, 198, 199, 200, 201, 202, 203, 204, 205, 206, 207, 208, 209, 210, 211] (by decide +kernel) (by decide +kernel)) (goodIn_sub (fun _ h => List.mem_cons_of_mem _ (List.mem_append_left _ (List.mem_append_left _ (List.mem_append_right _ h)))) (by decide +kernel))
set_option maxRecDepth 20000 in
theorem gL_isAccused_L_value : GoodIn wsL_isAccused (va_wsS RL 85 yL_value wsL_value) := goodIn_app (goodIn_of _ (by decide +kernel)) ggL_isAccused_L_value
set_option maxRecDepth 20000 in
theorem ggL_isAccused_L_print : GoodIn wsL_isAccused wsL_print := goodIn_ca (goodIn_ca (goodIn_r _ [39, 40, 41, 1, 2, 3, 4, 5, 6, 7, 8, 9, 10, 11, 12, 13, 14, 15, 16, 17, 18, 19, 20, 21, 22, 23, 24, 25, 26, 27, 28, 29, 30, 31, 32, 33, 34, 35, 36, 42, 43, 44, 45, 46, 47, 48, 49, 50, 51, 52, 53, 54, 55, 56, 57, 58, 59, 60, 61, 62, 63, 64, 65, 66, 67, 68, 69, 70, 71, 72, 73, 74, 75, 76, 77, 78, 79, 80, 81, 82, 83, 84, 85, 86, 87, 88, 89, 90, 91, 92, 93, 94, 95, 96, 97, 98, 99, 100, 101, 102, 103, 104, 105, 106, 107, 108, 109, 110, 111, 188, 189, 190, 191, 192, 193, 194, 195, 196, 197, 198, 199, 200, 201, 202, 203, 204, 205, 206, 207, 208, 209, 210, 211, 212, 213, 214, 215] (by decide +kernel) (by decide +kernel)) (goodIn_sub (fun _ h => List.mem_cons_of_mem _ (List.mem_append_left _ (List.mem_append_left _ (List.mem_append_right _ h)))) (by decide +kernel))) (goodIn_sub (fun _ h => List.mem_cons_of_mem _ (List.mem_append_left _ (List.mem_append_right _ h))) (by decide +kernel))
set_option maxRecDepth 20000 in
theorem gL_isAccused_L_print : GoodIn wsL_isAccused (va_wsS RL 95 yL_print wsL_print) := goodIn_app (goodIn_of _ (by decide +kernel)) ggL_isAccused_L_print
set_option maxRecDepth 20000 in
theorem ggL_isAccused_X4_culprits : GoodIn wsL_isAccused wsX4_culprits := goodIn_r _ [115, 14, 116, 83, 84, 75, 85, 86, 79, 80, 81, 188, 189, 190, 191, 192, 193, 194, 195, 196, 197, 198, 199, 200, 201, 202, 203, 204, 205, 206, 207, 208, 209, 210, 211, 212, 213, 214, 215] (by decide +kernel) (by decide +kernel)
set_option maxRecDepth 20000 in
theorem gL_isAccused_X4_culprits : GoodIn wsL_isAccused (wsV RL 130 RX4 yX4_culprits wsX4_culprits) := goodIn_app (goodIn_of _ (by decide +kernel)) ggL_isAccused_X4_culprits
set_option maxRecDepth 20000 in
theorem ggL_isAccused_L_accuse : GoodIn wsL_isAccused wsL_accuse := goodIn_ca (goodIn_ca (goodIn_r _ [119, 45, 120, 46, 121, 122, 123, 124, 10, 125, 51, 52, 126, 127, 14, 128, 129, 130, 131, 132, 133, 134, 135, 136, 137, 138, 139, 140, 141, 142, 143, 18, 144, 27, 20, 21, 29, 24, 25, 26, 28, 145, 98, 23, 61, 22, 71, 110, 111, 62, 146, 147, 148, 149, 150, 151, 152, 153, 154, 155, 156, 157, 158, 75, 159, 160, 161, 77, 78, 86, 162, 163, 164, 165, 166, 167, 168, 169, 170, 188, 189, 190, 191, 192, 193, 194, 195, 196, 197, 198, 199, 200, 201, 202, 203, 204, 205, 206, 207, 208, 209, 210, 211, 212, 213, 214, 215] (by decide +kernel) (by decide +kernel)) (goodIn_sub (fun _ h => List.mem_cons_of_mem _ (List.mem_append_left _ (List.mem_append_right _ h))) (by decide +kernel))) (goodIn_sub (fun _ h => List.mem_cons_of_mem _ (List.mem_append_right _ h)) (by decide +kernel))
set_option maxRecDepth 20000 in
theorem gL_isAccused_L_accuse : GoodIn wsL_isAccused (va_wsS RL 109 yL_accuse wsL_accuse) := goodIn_app (goodIn_of _ (by decide +kernel)) ggL_isAccused_L_accuse
set_option maxRecDepth 20000 in
theorem ggL_isAccused_L_areGuests : GoodIn wsL_isAccused wsL_areGuests := goodIn_ca (goodIn_ca (goodIn_r _ [173, 1, 2, 3, 4, 5, 6, 7, 8, 9, 10, 11, 12, 13, 14, 15, 16, 17, 18, 19, 20, 21, 22, 23, 24, 25, 26, 27, 28, 29, 30, 31, 32, 33, 34, 35, 36, 42, 43, 44, 45, 46, 47, 48, 49, 50, 51, 52, 53, 54, 55, 56, 57, 58, 59, 60, 61, 62, 63, 64, 65, 66, 67, 68, 69, 70, 71, 72, 73, 74, 75, 76, 77, 78, 79, 80, 81, 82, 83, 84, 85, 86, 87, 88, 89, 90, 91, 92, 93, 94, 95, 96, 97, 98, 174, 175, 176, 99, 100, 101, 102, 103, 104, 105, 106, 107, 108, 109, 110, 111, 188, 189, 190, 191, 192, 193, 194, 195, 196, 197, 198, 199, 200, 201, 202, 203, 204, 205, 206, 207, 208, 209, 210, 211, 212, 213, 214, 215] (by decide +kernel) (by decide +kernel)) (goodIn_sub (fun _ h => List.mem_cons_of_mem _ (List.mem_append_left _ (List.mem_append_left _ (List.mem_append_right _ h)))) (by decide +kernel))) (goodIn_sub (fun _ h => List.mem_cons_of_mem _ (List.mem_append_left _ (List.mem_append_right _ h))) (by decide +kernel))
set_option maxRecDepth 20000 in
theorem gL_isAccused_L_areGuests : GoodIn wsL_isAccused (va_wsS RL 145 yL_areGuests wsL_areGuests) := goodIn_app (goodIn_of _ (by decide +kernel)) ggL_isAccused_L_areGuests
set_option maxRecDepth 20000 in
theorem ggL_isAccused_L_guest : GoodIn wsL_isAccused wsL_guest := goodIn_ca (goodIn_ca (goodIn_r _ [44, 45, 5, 46, 6, 47, 48, 49, 10, 50, 51, 52, 12, 13, 14, 53, 54, 55, 18, 56, 20, 57, 58, 59, 60, 28, 61, 62, 21, 63, 64, 65, 66, 67, 68, 69, 70, 22, 71, 72, 73, 74, 75, 76, 77, 78, 79, 80, 81, 82, 83, 84, 85, 86, 87, 88, 89, 90, 91, 92, 93, 94, 95, 96, 97, 98, 188, 189, 190, 191, 192, 193, 194, 195, 196, 197, 198, 199, 200, 201, 202, 203, 204, 205, 206, 207, 208, 209, 210, 211, 212, 213, 214, 215] (by decide +kernel) (by decide +kernel)) (goodIn_sub (fun _ h => List.mem_cons_of_mem _ (List.mem_append_left _ (List.mem_append_right _ h))) (by decide +kernel))) (goodIn_sub (fun _ h => List.mem_cons_of_mem _ (List.mem_append_left _ (List.mem_append_left _ (List.mem_append_right _ h)))) (by decide +kernel))
set_option maxRecDepth 20000 in
theorem gL_isAccused_L_guest : GoodIn wsL_isAccused (va_wsS RL 90 yL_guest wsL_guest) := goodIn_app (goodIn_of _ (by decide +kernel)) ggL_isAccused_L_guest
set_option maxRecDepth 20000 in
theorem ggL_isAccused_L_undo : GoodIn wsL_isAccused wsL_undo := goodIn_ca (goodIn_r _ [179, 120, 121, 180, 181, 182, 10, 183, 126, 127, 135, 184, 185, 186, 187, 14, 137, 138, 139, 140, 136, 141, 142, 143, 18, 144, 27, 20, 21, 29, 24, 25, 26, 28, 145, 98, 23, 61, 22, 71, 110, 111, 62, 146, 147, 148, 149, 150, 151, 152, 153, 154, 155, 156, 157, 158, 75, 159, 160, 161, 77, 78, 86, 162, 163, 164, 165, 166, 188, 189, 190, 191, 192, 193, 194, 195, 196, 197, 198, 199, 200, 201, 202, 203, 204, 205, 206, 207, 208, 209, 210, 211, 212, 213, 214, 215] (by decide +kernel) (by decide +kernel)) (goodIn_sub (fun _ h => List.mem_cons_of_mem _ (List.mem_append_right _ h)) (by decide +kernel))
set_option maxRecDepth 20000 in
theorem gL_isAccused_L_undo : GoodIn wsL_isAccused (va_wsS RL 139 yL_undo wsL_undo) := goodIn_app (goodIn_of _ (by decide +kernel)) ggL_isAccused_L_undo
theorem dL_isAccused_0 : decode cL_isAccused 0 = .ok (.aload_n 0, 1) := by decide +kernel
theorem dL_isAccused_1 : decode cL_isAccused 1 = .ok (.iconst 1, 1) := by decide +kernel
theorem dL_isAccused_2 : decode cL_isAccused 2 = .ok (.invokestatic 85, 3) := by decide +kernel
theorem dL_isAccused_5 : decode cL_isAccused 5 = .ok (.ifCond .ne 5, 3) := by decide +kernel
theorem dL_isAccused_8 : decode cL_isAccused 8 = .ok (.iconst 1, 1) := by decide +kernel
theorem dL_isAccused_9 : decode cL_isAccused 9 = .ok (.ireturn, 1) := by decide +kernel
theorem dL_isAccused_10 : decode cL_isAccused 10 = .ok (.aload_n 0, 1) := by decide +kernel
theorem dL_isAccused_11 : decode cL_isAccused 11 = .ok (.invokestatic 95, 3) := by decide +kernel
theorem dL_isAccused_14 : decode cL_isAccused 14 = .ok (.lstore_n 2, 1) := by decide +kernel
theorem dL_isAccused_15 : decode cL_isAccused 15 = .ok (.aload_n 0, 1) := by decide +kernel
theorem dL_isAccused_16 : decode cL_isAccused 16 = .ok (.bipush 6, 2) := by decide +kernel
theorem dL_isAccused_18 : decode cL_isAccused 18 = .ok (.invokestatic 85, 3) := by decide +kernel
theorem dL_isAccused_21 : decode cL_isAccused 21 = .ok (.istore 4, 2) := by decide +kernel
theorem dL_isAccused_23 : decode cL_isAccused 23 = .ok (.aload_n 0, 1) := by decide +kernel
theorem dL_isAccused_24 : decode cL_isAccused 24 = .ok (.iconst 5, 1) := by decide +kernel
theorem dL_isAccused_25 : decode cL_isAccused 25 = .ok (.invokestatic 85, 3) := by decide +kernel
theorem dL_isAccused_28 : decode cL_isAccused 28 = .ok (.istore 5, 2) := by decide +kernel
theorem dL_isAccused_30 : decode cL_isAccused 30 = .ok (.aload_n 0, 1) := by decide +kernel
theorem dL_isAccused_31 : decode cL_isAccused 31 = .ok (.iconst 4, 1) := by decide +kernel
theorem dL_isAccused_32 : decode cL_isAccused 32 = .ok (.invokestatic 85, 3) := by decide +kernel
theorem dL_isAccused_35 : decode cL_isAccused 35 = .ok (.istore 6, 2) := by decide +kernel
theorem dL_isAccused_37 : decode cL_isAccused 37 = .ok (.aload_n 0, 1) := by decide +kernel
theorem dL_isAccused_38 : decode cL_isAccused 38 = .ok (.invokevirtual 130, 3) := by decide +kernel
theorem dL_isAccused_41 : decode cL_isAccused 41 = .ok (.istore 7, 2) := by decide +kernel
theorem dL_isAccused_43 : decode cL_isAccused 43 = .ok (.aload_n 0, 1) := by decide +kernel
theorem dL_isAccused_44 : decode cL_isAccused 44 = .ok (.iload_n 1, 1) := by decide +kernel
theorem dL_isAccused_45 : decode cL_isAccused 45 = .ok (.invokestatic 109, 3) := by decide +kernel
theorem dL_isAccused_48 : decode cL_isAccused 48 = .ok (.istore 8, 2) := by decide +kernel
theorem dL_isAccused_50 : decode cL_isAccused 50 = .ok (.iload 7, 2) := by decide +kernel
theorem dL_isAccused_52 : decode cL_isAccused 52 = .ok (.iload 8, 2) := by decide +kernel
theorem dL_isAccused_54 : decode cL_isAccused 54 = .ok (.ishr, 1) := by decide +kernel
theorem dL_isAccused_55 : decode cL_isAccused 55 = .ok (.iconst 1, 1) := by decide +kernel
theorem dL_isAccused_56 : decode cL_isAccused 56 = .ok (.iand, 1) := by decide +kernel
theorem dL_isAccused_57 : decode cL_isAccused 57 = .ok (.iconst 1, 1) := by decide +kernel
theorem dL_isAccused_58 : decode cL_isAccused 58 = .ok (.if_icmp .ne 98, 3) := by decide +kernel
theorem dL_isAccused_61 : decode cL_isAccused 61 = .ok (.aload_n 0, 1) := by decide +kernel
theorem dL_isAccused_62 : decode cL_isAccused 62 = .ok (.bipush 9, 2) := by decide +kernel
theorem dL_isAccused_64 : decode cL_isAccused 64 = .ok (.invokestatic 85, 3) := by decide +kernel
theorem dL_isAccused_67 : decode cL_isAccused 67 = .ok (.iload 8, 2) := by decide +kernel
theorem dL_isAccused_69 : decode cL_isAccused 69 = .ok (.if_icmp .ne 87, 3) := by decide +kernel
theorem dL_isAccused_72 : decode cL_isAccused 72 = .ok (.aload_n 0, 1) := by decide +kernel
theorem dL_isAccused_73 : decode cL_isAccused 73 = .ok (.iconst 4, 1) := by decide +kernel
theorem dL_isAccused_74 : decode cL_isAccused 74 = .ok (.invokestatic 85, 3) := by decide +kernel
theorem dL_isAccused_77 : decode cL_isAccused 77 = .ok (.iload 6, 2) := by decide +kernel
theorem dL_isAccused_79 : decode cL_isAccused 79 = .ok (.iconst 1, 1) := by decide +kernel
theorem dL_isAccused_80 : decode cL_isAccused 80 = .ok (.iadd, 1) := by decide +kernel
theorem dL_isAccused_81 : decode cL_isAccused 81 = .ok (.if_icmp .ne 75, 3) := by decide +kernel
theorem dL_isAccused_84 : decode cL_isAccused 84 = .ok (.aload_n 0, 1) := by decide +kernel
theorem dL_isAccused_85 : decode cL_isAccused 85 = .ok (.iconst 5, 1) := by decide +kernel
theorem dL_isAccused_86 : decode cL_isAccused 86 = .ok (.invokestatic 85, 3) := by decide +kernel
theorem dL_isAccused_89 : decode cL_isAccused 89 = .ok (.iload 5, 2) := by decide +kernel
theorem dL_isAccused_91 : decode cL_isAccused 91 = .ok (.iload 8, 2) := by decide +kernel
theorem dL_isAccused_93 : decode cL_isAccused 93 = .ok (.iload_n 1, 1) := by decide +kernel
theorem dL_isAccused_94 : decode cL_isAccused 94 = .ok (.if_icmp .ne 7, 3) := by decide +kernel
theorem dL_isAccused_97 : decode cL_isAccused 97 = .ok (.iconst 1, 1) := by decide +kernel
theorem dL_isAccused_98 : decode cL_isAccused 98 = .ok (.goto 4, 3) := by decide +kernel
theorem dL_isAccused_101 : decode cL_isAccused 101 = .ok (.iconst 0, 1) := by decide +kernel
theorem dL_isAccused_102 : decode cL_isAccused 102 = .ok (.iadd, 1) := by decide +kernel
theorem dL_isAccused_103 : decode cL_isAccused 103 = .ok (.if_icmp .ne 53, 3) := by decide +kernel
theorem dL_isAccused_106 : decode cL_isAccused 106 = .ok (.aload_n 0, 1) := by decide +kernel
theorem dL_isAccused_107 : decode cL_isAccused 107 = .ok (.bipush 6, 2) := by decide +kernel
theorem dL_isAccused_109 : decode cL_isAccused 109 = .ok (.invokestatic 85, 3) := by decide +kernel
theorem dL_isAccused_112 : decode cL_isAccused 112 = .ok (.iload 4, 2) := by decide +kernel
theorem dL_isAccused_114 : decode cL_isAccused 114 = .ok (.iload 8, 2) := by decide +kernel
theorem dL_isAccused_116 : decode cL_isAccused 116 = .ok (.iload_n 1, 1) := by decide +kernel
theorem dL_isAccused_117 : decode cL_isAccused 117 = .ok (.if_icmp .ne 14, 3) := by decide +kernel
theorem dL_isAccused_120 : decode cL_isAccused 120 = .ok (.bipush 21, 2) := by decide +kernel
theorem dL_isAccused_122 : decode cL_isAccused 122 = .ok (.aload_n 0, 1) := by decide +kernel
theorem dL_isAccused_123 : decode cL_isAccused 123 = .ok (.iconst 2, 1) := by decide +kernel
theorem dL_isAccused_124 : decode cL_isAccused 124 = .ok (.invokestatic 85, 3) := by decide +kernel
theorem dL_isAccused_127 : decode cL_isAccused 127 = .ok (.isub, 1) := by decide +kernel
theorem dL_isAccused_128 : decode cL_isAccused 128 = .ok (.goto 5, 3) := by decide +kernel
theorem dL_isAccused_131 : decode cL_isAccused 131 = .ok (.bipush (-10), 2) := by decide +kernel
theorem dL_isAccused_133 : decode cL_isAccused 133 = .ok (.iadd, 1) := by decide +kernel
theorem dL_isAccused_134 : decode cL_isAccused 134 = .ok (.if_icmp .ne 22, 3) := by decide +kernel
theorem dL_isAccused_137 : decode cL_isAccused 137 = .ok (.aload_n 0, 1) := by decide +kernel
theorem dL_isAccused_138 : decode cL_isAccused 138 = .ok (.iconst 1, 1) := by decide +kernel
theorem dL_isAccused_139 : decode cL_isAccused 139 = .ok (.invokestatic 85, 3) := by decide +kernel
theorem dL_isAccused_142 : decode cL_isAccused 142 = .ok (.ifCond .ne 14, 3) := by decide +kernel
theorem dL_isAccused_145 : decode cL_isAccused 145 = .ok (.aload_n 0, 1) := by decide +kernel
theorem dL_isAccused_146 : decode cL_isAccused 146 = .ok (.invokestatic 145, 3) := by decide +kernel
theorem dL_isAccused_149 : decode cL_isAccused 149 = .ok (.ifCond .eq 7, 3) := by decide +kernel
theorem dL_isAccused_152 : decode cL_isAccused 152 = .ok (.iconst 1, 1) := by decide +kernel
theorem dL_isAccused_153 : decode cL_isAccused 153 = .ok (.goto 4, 3) := by decide +kernel
theorem dL_isAccused_156 : decode cL_isAccused 156 = .ok (.iconst 0, 1) := by decide +kernel
theorem dL_isAccused_157 : decode cL_isAccused 157 = .ok (.istore 9, 2) := by decide +kernel
theorem dL_isAccused_159 : decode cL_isAccused 159 = .ok (.iconst 0, 1) := by decide +kernel
theorem dL_isAccused_160 : decode cL_isAccused 160 = .ok (.istore 10, 2) := by decide +kernel
theorem dL_isAccused_162 : decode cL_isAccused 162 = .ok (.iload 10, 2) := by decide +kernel
theorem dL_isAccused_164 : decode cL_isAccused 164 = .ok (.aload_n 0, 1) := by decide +kernel
theorem dL_isAccused_165 : decode cL_isAccused 165 = .ok (.iconst 0, 1) := by decide +kernel
theorem dL_isAccused_166 : decode cL_isAccused 166 = .ok (.invokestatic 85, 3) := by decide +kernel
theorem dL_isAccused_169 : decode cL_isAccused 169 = .ok (.if_icmp .ge 61, 3) := by decide +kernel
theorem dL_isAccused_172 : decode cL_isAccused 172 = .ok (.iload 9, 2) := by decide +kernel
theorem dL_isAccused_174 : decode cL_isAccused 174 = .ok (.ifCond .eq 56, 3) := by decide +kernel
theorem dL_isAccused_177 : decode cL_isAccused 177 = .ok (.aload_n 0, 1) := by decide +kernel
theorem dL_isAccused_178 : decode cL_isAccused 178 = .ok (.iload 10, 2) := by decide +kernel
theorem dL_isAccused_180 : decode cL_isAccused 180 = .ok (.bipush 7, 2) := by decide +kernel
theorem dL_isAccused_182 : decode cL_isAccused 182 = .ok (.invokestatic 90, 3) := by decide +kernel
theorem dL_isAccused_185 : decode cL_isAccused 185 = .ok (.istore 11, 2) := by decide +kernel
theorem dL_isAccused_187 : decode cL_isAccused 187 = .ok (.iload 11, 2) := by decide +kernel
theorem dL_isAccused_189 : decode cL_isAccused 189 = .ok (.aload_n 0, 1) := by decide +kernel
theorem dL_isAccused_190 : decode cL_isAccused 190 = .ok (.iload 10, 2) := by decide +kernel
theorem dL_isAccused_192 : decode cL_isAccused 192 = .ok (.iconst 5, 1) := by decide +kernel
theorem dL_isAccused_193 : decode cL_isAccused 193 = .ok (.invokestatic 90, 3) := by decide +kernel
theorem dL_isAccused_196 : decode cL_isAccused 196 = .ok (.iconst (-1), 1) := by decide +kernel
theorem dL_isAccused_197 : decode cL_isAccused 197 = .ok (.ixor, 1) := by decide +kernel
theorem dL_isAccused_198 : decode cL_isAccused 198 = .ok (.iand, 1) := by decide +kernel
theorem dL_isAccused_199 : decode cL_isAccused 199 = .ok (.ifCond .ne 22, 3) := by decide +kernel
theorem dL_isAccused_202 : decode cL_isAccused 202 = .ok (.aload_n 0, 1) := by decide +kernel
theorem dL_isAccused_203 : decode cL_isAccused 203 = .ok (.iload 10, 2) := by decide +kernel
theorem dL_isAccused_205 : decode cL_isAccused 205 = .ok (.iconst 4, 1) := by decide +kernel
theorem dL_isAccused_206 : decode cL_isAccused 206 = .ok (.invokestatic 90, 3) := by decide +kernel
theorem dL_isAccused_209 : decode cL_isAccused 209 = .ok (.iload 11, 2) := by decide +kernel
theorem dL_isAccused_211 : decode cL_isAccused 211 = .ok (.iconst (-1), 1) := by decide +kernel
theorem dL_isAccused_212 : decode cL_isAccused 212 = .ok (.ixor, 1) := by decide +kernel
theorem dL_isAccused_213 : decode cL_isAccused 213 = .ok (.iand, 1) := by decide +kernel
theorem dL_isAccused_214 : decode cL_isAccused 214 = .ok (.ifCond .ne 7, 3) := by decide +kernel
theorem dL_isAccused_217 : decode cL_isAccused 217 = .ok (.iconst 1, 1) := by decide +kernel
theorem dL_isAccused_218 : decode cL_isAccused 218 = .ok (.goto 4, 3) := by decide +kernel
theorem dL_isAccused_221 : decode cL_isAccused 221 = .ok (.iconst 0, 1) := by decide +kernel
theorem dL_isAccused_222 : decode cL_isAccused 222 = .ok (.istore 9, 2) := by decide +kernel
theorem dL_isAccused_224 : decode cL_isAccused 224 = .ok (.iinc 10 1, 3) := by decide +kernel
theorem dL_isAccused_227 : decode cL_isAccused 227 = .ok (.goto (-65), 3) := by decide +kernel
theorem dL_isAccused_230 : decode cL_isAccused 230 = .ok (.iload 9, 2) := by decide +kernel
theorem dL_isAccused_232 : decode cL_isAccused 232 = .ok (.ifCond .eq 23, 3) := by decide +kernel
theorem dL_isAccused_235 : decode cL_isAccused 235 = .ok (.aload_n 0, 1) := by decide +kernel
theorem dL_isAccused_236 : decode cL_isAccused 236 = .ok (.invokestatic 139, 3) := by decide +kernel
theorem dL_isAccused_239 : decode cL_isAccused 239 = .ok (.ifCond .lt 16, 3) := by decide +kernel
theorem dL_isAccused_242 : decode cL_isAccused 242 = .ok (.aload_n 0, 1) := by decide +kernel
theorem dL_isAccused_243 : decode cL_isAccused 243 = .ok (.invokestatic 95, 3) := by decide +kernel
theorem dL_isAccused_246 : decode cL_isAccused 246 = .ok (.lload_n 2, 1) := by decide +kernel
theorem dL_isAccused_247 : decode cL_isAccused 247 = .ok (.lcmp, 1) := by decide +kernel
theorem dL_isAccused_248 : decode cL_isAccused 248 = .ok (.ifCond .ne 7, 3) := by decide +kernel
theorem dL_isAccused_251 : decode cL_isAccused 251 = .ok (.iconst 1, 1) := by decide +kernel
theorem dL_isAccused_252 : decode cL_isAccused 252 = .ok (.goto 4, 3) := by decide +kernel
theorem dL_isAccused_255 : decode cL_isAccused 255 = .ok (.iconst 0, 1) := by decide +kernel
theorem dL_isAccused_256 : decode cL_isAccused 256 = .ok (.ireturn, 1) := by decide +kernel
set_option maxRecDepth 20000 in
theorem ggL_acts_L_value : GoodIn wsL_acts wsL_value := goodIn_ca (goodIn_r _ [4, 5, 6, 7, 8, 9, 10, 11, 12, 13, 14, 15, 16, 17, 18, 19, 20, 21, 22, 23, 24, 25, 26, 27, 28, 29, 30, 31, 32, 33, 34, 35, 36, 232, 233, 234, 235, 236, 237, 238, 239, 240, 241, 242, 243, 244, 245, 246, 247, 248, 249, 250, 251, 252, 253, 254, 255] (by decide +kernel) (by decide +kernel)) (goodIn_sub (fun _ h => List.mem_cons_of_mem _ (List.mem_append_left _ (List.mem_append_left _ (List.mem_append_right _ h)))) (by decide +kernel))
set_option maxRecDepth 20000 in
theorem gL_acts_L_value : GoodIn wsL_acts (va_wsS RL 85 yL_value wsL_value) := goodIn_app (goodIn_of _ (by decide +kernel)) ggL_acts_L_value
set_option maxRecDepth 20000 in
theorem ggL_acts_L_low : GoodIn wsL_acts wsL_low := goodIn_r _ [39, 40] (by decide +kernel) (by decide +kernel)
set_option maxRecDepth 20000 in
theorem gL_acts_L_low : GoodIn wsL_acts (va_wsS RL 149 yL_low wsL_low) := goodIn_app (goodIn_of _ (by decide +kernel)) ggL_acts_L_low
set_option maxRecDepth 20000 in
theorem ggL_acts_L_begin : GoodIn wsL_acts wsL_begin := goodIn_ca (goodIn_ca (goodIn_r _ [43, 5, 44, 6, 45, 46, 47, 48, 10, 49, 12, 13, 50, 51, 52, 14, 53, 54, 55, 56, 57, 58, 59, 60, 61, 62, 63, 64, 65, 66, 67, 18, 68, 27, 20, 21, 29, 24, 25, 26, 28, 69, 70, 23, 71, 22, 72, 73, 74, 75, 76, 77, 78, 79, 80, 81, 82, 83, 84, 85, 86, 87, 88, 89, 90, 91, 92, 93, 94, 95, 96, 97, 98, 99, 100, 101, 102, 103, 104, 105, 106, 107, 108, 109, 110, 111, 112, 113, 114, 115, 31, 32, 33, 34, 35, 36, 116, 117, 118, 119, 120, 121, 122, 123, 124, 125, 126, 127, 128, 129, 130, 131, 132, 133, 134, 135, 136, 137, 138, 139, 140, 141, 142, 30, 143, 232, 233, 234, 235, 236, 237, 238, 239, 240, 241, 242, 243, 244, 245, 246, 247, 248, 249, 250, 251, 252, 253, 254, 255, 256, 257, 258, 259] (by decide +kernel) (by decide +kernel)) (goodIn_sub (fun _ h => List.mem_cons_of_mem _ (List.mem_append_left _ (List.mem_append_left _ (List.mem_append_right _ h)))) (by decide +kernel))) (goodIn_sub (fun _ h => List.mem_cons_of_mem _ (List.mem_append_left _ (List.mem_append_right _ h))) (by decide +kernel))
set_option maxRecDepth 20000 in
theorem gL_acts_L_begin : GoodIn wsL_acts (va_wsS RL 99 yL_begin wsL_begin) := goodIn_app (goodIn_of _ (by decide +kernel)) ggL_acts_L_begin
set_option maxRecDepth 20000 in
theorem ggL_acts_L_accuse : GoodIn wsL_acts wsL_accuse := goodIn_ca (goodIn_ca (goodIn_r _ [146, 147, 44, 148, 45, 149, 150, 151, 10, 152, 153, 154, 50, 51, 14, 155, 156, 157, 55, 56, 57, 58, 59, 60, 61, 62, 63, 64, 65, 66, 67, 18, 68, 27, 20, 21, 29, 24, 25, 26, 28, 69, 70, 23, 71, 22, 72, 73, 74, 75, 76, 77, 78, 79, 80, 81, 82, 83, 84, 85, 86, 87, 88, 89, 90, 91, 92, 93, 94, 95, 96, 97, 98, 99, 100, 158, 159, 160, 161, 232, 233, 234, 235, 236, 237, 238, 239, 240, 241, 242, 243, 244, 245, 246, 247, 248, 249, 250, 251, 252, 253, 254, 255, 256, 257, 258, 259] (by decide +kernel) (by decide +kernel)) (goodIn_sub (fun _ h => List.mem_cons_of_mem _ (List.mem_append_right _ h)) (by decide +kernel))) (goodIn_sub (fun _ h => List.mem_cons_of_mem _ (List.mem_append_left _ (List.mem_append_right _ h))) (by decide +kernel))
set_option maxRecDepth 20000 in
theorem gL_acts_L_accuse : GoodIn wsL_acts (va_wsS RL 109 yL_accuse wsL_accuse) := goodIn_app (goodIn_of _ (by decide +kernel)) ggL_acts_L_accuse
set_option maxRecDepth 20000 in
theorem ggL_acts_L_leave : GoodIn wsL_acts wsL_leave := goodIn_ca (goodIn_ca (goodIn_r _ [164, 147, 44, 148, 45, 165, 166, 167, 10, 168, 153, 154, 50, 51, 14, 169, 170, 171, 18, 172, 20, 173, 174, 175, 176, 21, 28, 177, 55, 56, 57, 58, 59, 60, 61, 62, 63, 64, 65, 66, 67, 68, 27, 29, 24, 25, 26, 69, 70, 23, 71, 22, 72, 73, 74, 75, 76, 77, 78, 79, 80, 81, 82, 83, 84, 85, 86, 87, 88, 89, 90, 91, 92, 93, 94, 95, 96, 97, 98, 99, 100, 178, 179, 180, 181, 30, 31, 32, 33, 34, 35, 36, 232, 233, 234, 235, 236, 237, 238, 239, 240, 241, 242, 243, 244, 245, 246, 247, 248, 249, 250, 251, 252, 253, 254, 255, 256, 257, 258, 259] (by decide +kernel) (by decide +kernel)) (goodIn_sub (fun _ h => List.mem_cons_of_mem _ (List.mem_append_right _ h)) (by decide +kernel))) (goodIn_sub (fun _ h => List.mem_cons_of_mem _ (List.mem_append_left _ (List.mem_append_right _ h))) (by decide +kernel))
set_option maxRecDepth 20000 in
theorem gL_acts_L_leave : GoodIn wsL_acts (va_wsS RL 107 yL_leave wsL_leave) := goodIn_app (goodIn_of _ (by decide +kernel)) ggL_acts_L_leave
set_option maxRecDepth 20000 in
theorem ggL_acts_L_prove : GoodIn wsL_acts wsL_prove := goodIn_ca (goodIn_ca (goodIn_r _ [184, 147, 44, 148, 45, 185, 186, 187, 10, 188, 153, 154, 50, 51, 14, 169, 170, 171, 18, 172, 20, 155, 156, 157, 173, 174, 175, 176, 21, 28, 177, 55, 56, 57, 58, 59, 60, 61, 62, 63, 64, 65, 66, 67, 68, 27, 29, 24, 25, 26, 69, 70, 23, 71, 22, 72, 73, 74, 75, 76, 77, 78, 79, 80, 81, 82, 83, 84, 85, 86, 87, 88, 89, 90, 91, 92, 93, 94, 95, 96, 97, 98, 99, 100, 189, 190, 191, 192, 193, 194, 195, 196, 197, 198, 199, 200, 120, 121, 122, 201, 202, 203, 204, 205, 108, 109, 110, 111, 232, 233, 234, 235, 236, 237, 238, 239, 240, 241, 242, 243, 244, 245, 246, 247, 248, 249, 250, 251, 252, 253, 254, 255, 256, 257, 258, 259] (by decide +kernel) (by decide +kernel)) (goodIn_sub (fun _ h => List.mem_cons_of_mem _ (List.mem_append_right _ h)) (by decide +kernel))) (goodIn_sub (fun _ h => List.mem_cons_of_mem _ (List.mem_append_left _ (List.mem_append_right _ h))) (by decide +kernel))
set_option maxRecDepth 20000 in
theorem gL_acts_L_prove : GoodIn wsL_acts (va_wsS RL 105 yL_prove wsL_prove) := goodIn_app (goodIn_of _ (by decide +kernel)) ggL_acts_L_prove
set_option maxRecDepth 20000 in
theorem ggL_acts_L_ask : GoodIn wsL_acts wsL_ask := goodIn_ca (goodIn_ca (goodIn_ca (goodIn_r _ [208, 147, 5, 44, 148, 6, 45, 209, 210, 211, 10, 212, 153, 154, 12, 13, 50, 51, 14, 169, 170, 171, 18, 172, 20, 213, 214, 215, 216, 217, 218, 219, 22, 69, 220, 174, 175, 176, 21, 28, 177, 55, 56, 57, 58, 59, 60, 61, 62, 63, 64, 65, 66, 67, 68, 27, 29, 24, 25, 26, 70, 23, 71, 72, 73, 74, 75, 76, 77, 78, 79, 80, 81, 82, 83, 84, 85, 86, 87, 88, 89, 90, 91, 92, 93, 94, 95, 96, 97, 98, 99, 100, 221, 222, 223, 224, 193, 194, 195, 196, 30, 31, 32, 33, 34, 35, 36, 116, 117, 118, 119, 225, 226, 227, 228, 229, 230, 231, 201, 202, 203, 204, 205, 112, 113, 114, 115, 108, 109, 110, 111, 232, 233, 234, 235, 236, 237, 238, 239, 240, 241, 242, 243, 244, 245, 246, 247, 248, 249, 250, 251, 252, 253, 254, 255, 256, 257, 258, 259] (by decide +kernel) (by decide +kernel)) (goodIn_sub (fun _ h => List.mem_cons_of_mem _ (List.mem_append_right _ h)) (by decide +kernel))) (goodIn_sub (fun _ h => List.mem_cons_of_mem _ (List.mem_append_left _ (List.mem_append_left _ (List.mem_append_right _ h)))) (by decide +kernel))) (goodIn_sub (fun _ h => List.mem_cons_of_mem _ (List.mem_append_left _ (List.mem_append_right _ h))) (by decide +kernel))
set_option maxRecDepth 20000 in
theorem gL_acts_L_ask : GoodIn wsL_acts (va_wsS RL 102 yL_ask wsL_ask) := goodIn_app (goodIn_of _ (by decide +kernel)) ggL_acts_L_ask
theorem dL_acts_0 : decode cL_acts 0 = .ok (.aload_n 0, 1) := by decide +kernel
theorem dL_acts_1 : decode cL_acts 1 = .ok (.iconst 0, 1) := by decide +kernel
theorem dL_acts_2 : decode cL_acts 2 = .ok (.invokestatic 85, 3) := by decide +kernel
theorem dL_acts_5 : decode cL_acts 5 = .ok (.istore_n 3, 1) := by decide +kernel
theorem dL_acts_6 : decode cL_acts 6 = .ok (.iload_n 3, 1) := by decide +kernel
theorem dL_acts_7 : decode cL_acts 7 = .ok (.ifCond .ne 7, 3) := by decide +kernel
theorem dL_acts_10 : decode cL_acts 10 = .ok (.iconst 0, 1) := by decide +kernel
theorem dL_acts_11 : decode cL_acts 11 = .ok (.goto 6, 3) := by decide +kernel
theorem dL_acts_14 : decode cL_acts 14 = .ok (.iload_n 2, 1) := by decide +kernel
theorem dL_acts_15 : decode cL_acts 15 = .ok (.iload_n 3, 1) := by decide +kernel
theorem dL_acts_16 : decode cL_acts 16 = .ok (.irem, 1) := by decide +kernel
theorem dL_acts_17 : decode cL_acts 17 = .ok (.istore 4, 2) := by decide +kernel
theorem dL_acts_19 : decode cL_acts 19 = .ok (.aload_n 0, 1) := by decide +kernel
theorem dL_acts_20 : decode cL_acts 20 = .ok (.iconst 1, 1) := by decide +kernel
theorem dL_acts_21 : decode cL_acts 21 = .ok (.invokestatic 85, 3) := by decide +kernel
theorem dL_acts_24 : decode cL_acts 24 = .ok (.ifCond .ne 36, 3) := by decide +kernel
theorem dL_acts_27 : decode cL_acts 27 = .ok (.iload_n 1, 1) := by decide +kernel
theorem dL_acts_28 : decode cL_acts 28 = .ok (.iconst 3, 1) := by decide +kernel
theorem dL_acts_29 : decode cL_acts 29 = .ok (.ishr, 1) := by decide +kernel
theorem dL_acts_30 : decode cL_acts 30 = .ok (.iconst 4, 1) := by decide +kernel
theorem dL_acts_31 : decode cL_acts 31 = .ok (.invokestatic 149, 3) := by decide +kernel
theorem dL_acts_34 : decode cL_acts 34 = .ok (.ifCond .le 26, 3) := by decide +kernel
theorem dL_acts_37 : decode cL_acts 37 = .ok (.aload_n 0, 1) := by decide +kernel
theorem dL_acts_38 : decode cL_acts 38 = .ok (.iconst 3, 1) := by decide +kernel
theorem dL_acts_39 : decode cL_acts 39 = .ok (.iload_n 2, 1) := by decide +kernel
theorem dL_acts_40 : decode cL_acts 40 = .ok (.iconst 4, 1) := by decide +kernel
theorem dL_acts_41 : decode cL_acts 41 = .ok (.irem, 1) := by decide +kernel
theorem dL_acts_42 : decode cL_acts 42 = .ok (.iconst 3, 1) := by decide +kernel
theorem dL_acts_43 : decode cL_acts 43 = .ok (.idiv, 1) := by decide +kernel
theorem dL_acts_44 : decode cL_acts 44 = .ok (.iadd, 1) := by decide +kernel
theorem dL_acts_45 : decode cL_acts 45 = .ok (.iload_n 2, 1) := by decide +kernel
theorem dL_acts_46 : decode cL_acts 46 = .ok (.iconst 3, 1) := by decide +kernel
theorem dL_acts_47 : decode cL_acts 47 = .ok (.irem, 1) := by decide +kernel
theorem dL_acts_48 : decode cL_acts 48 = .ok (.ifCond .ne 7, 3) := by decide +kernel
theorem dL_acts_51 : decode cL_acts 51 = .ok (.iconst (-1), 1) := by decide +kernel
theorem dL_acts_52 : decode cL_acts 52 = .ok (.goto 4, 3) := by decide +kernel
theorem dL_acts_55 : decode cL_acts 55 = .ok (.iload_n 2, 1) := by decide +kernel
theorem dL_acts_56 : decode cL_acts 56 = .ok (.invokestatic 99, 3) := by decide +kernel
theorem dL_acts_59 : decode cL_acts 59 = .ok (.ireturn, 1) := by decide +kernel
theorem dL_acts_60 : decode cL_acts 60 = .ok (.iload_n 1, 1) := by decide +kernel
theorem dL_acts_61 : decode cL_acts 61 = .ok (.bipush 16, 2) := by decide +kernel
theorem dL_acts_63 : decode cL_acts 63 = .ok (.invokestatic 149, 3) := by decide +kernel
theorem dL_acts_66 : decode cL_acts 66 = .ok (.tableswitch 63 0 4 #[34, 43, 50, 50, 50], 34) := by decide +kernel
theorem dL_acts_100 : decode cL_acts 100 = .ok (.aload_n 0, 1) := by decide +kernel
theorem dL_acts_101 : decode cL_acts 101 = .ok (.iload_n 2, 1) := by decide +kernel
theorem dL_acts_102 : decode cL_acts 102 = .ok (.bipush 8, 2) := by decide +kernel
theorem dL_acts_104 : decode cL_acts 104 = .ok (.irem, 1) := by decide +kernel
theorem dL_acts_105 : decode cL_acts 105 = .ok (.invokestatic 109, 3) := by decide +kernel
theorem dL_acts_108 : decode cL_acts 108 = .ok (.ireturn, 1) := by decide +kernel
theorem dL_acts_109 : decode cL_acts 109 = .ok (.aload_n 0, 1) := by decide +kernel
theorem dL_acts_110 : decode cL_acts 110 = .ok (.iload 4, 2) := by decide +kernel
theorem dL_acts_112 : decode cL_acts 112 = .ok (.invokestatic 107, 3) := by decide +kernel
theorem dL_acts_115 : decode cL_acts 115 = .ok (.ireturn, 1) := by decide +kernel
theorem dL_acts_116 : decode cL_acts 116 = .ok (.aload_n 0, 1) := by decide +kernel
theorem dL_acts_117 : decode cL_acts 117 = .ok (.iload 4, 2) := by decide +kernel
theorem dL_acts_119 : decode cL_acts 119 = .ok (.iload_n 2, 1) := by decide +kernel
theorem dL_acts_120 : decode cL_acts 120 = .ok (.iconst 4, 1) := by decide +kernel
theorem dL_acts_121 : decode cL_acts 121 = .ok (.idiv, 1) := by decide +kernel
theorem dL_acts_122 : decode cL_acts 122 = .ok (.bipush 8, 2) := by decide +kernel
theorem dL_acts_124 : decode cL_acts 124 = .ok (.irem, 1) := by decide +kernel
theorem dL_acts_125 : decode cL_acts 125 = .ok (.invokestatic 105, 3) := by decide +kernel
theorem dL_acts_128 : decode cL_acts 128 = .ok (.ireturn, 1) := by decide +kernel
theorem dL_acts_129 : decode cL_acts 129 = .ok (.aload_n 0, 1) := by decide +kernel
theorem dL_acts_130 : decode cL_acts 130 = .ok (.iload 4, 2) := by decide +kernel
theorem dL_acts_132 : decode cL_acts 132 = .ok (.iconst 1, 1) := by decide +kernel
theorem dL_acts_133 : decode cL_acts 133 = .ok (.iload_n 2, 1) := by decide +kernel
theorem dL_acts_134 : decode cL_acts 134 = .ok (.iconst 4, 1) := by decide +kernel
theorem dL_acts_135 : decode cL_acts 135 = .ok (.idiv, 1) := by decide +kernel
theorem dL_acts_136 : decode cL_acts 136 = .ok (.sipush 255, 3) := by decide +kernel
theorem dL_acts_139 : decode cL_acts 139 = .ok (.irem, 1) := by decide +kernel
theorem dL_acts_140 : decode cL_acts 140 = .ok (.iadd, 1) := by decide +kernel
theorem dL_acts_141 : decode cL_acts 141 = .ok (.iload_n 2, 1) := by decide +kernel
theorem dL_acts_142 : decode cL_acts 142 = .ok (.bipush 7, 2) := by decide +kernel
theorem dL_acts_144 : decode cL_acts 144 = .ok (.idiv, 1) := by decide +kernel
theorem dL_acts_145 : decode cL_acts 145 = .ok (.iconst 3, 1) := by decide +kernel
theorem dL_acts_146 : decode cL_acts 146 = .ok (.irem, 1) := by decide +kernel
theorem dL_acts_147 : decode cL_acts 147 = .ok (.ifCond .ne 7, 3) := by decide +kernel
theorem dL_acts_150 : decode cL_acts 150 = .ok (.iconst 1, 1) := by decide +kernel
theorem dL_acts_151 : decode cL_acts 151 = .ok (.goto 4, 3) := by decide +kernel
theorem dL_acts_154 : decode cL_acts 154 = .ok (.iconst 0, 1) := by decide +kernel
theorem dL_acts_155 : decode cL_acts 155 = .ok (.invokestatic 102, 3) := by decide +kernel
theorem dL_acts_158 : decode cL_acts 158 = .ok (.ireturn, 1) := by decide +kernel
set_option maxRecDepth 20000 in
theorem ggL_law_X4_init : GoodIn wsL_law wsX4_init := goodIn_r _ [9, 10, 11, 12, 13, 14, 15, 16, 17, 18, 19, 20, 21, 22, 23, 24, 25, 26, 27, 28, 29, 30, 31, 32, 33, 34, 35, 36, 37, 38, 39, 40, 41, 42, 43, 44, 45, 46, 47, 48, 49, 50, 51, 52, 53, 54, 55, 56, 57, 58, 468, 469, 470, 471, 472, 473, 474, 475, 476, 477, 478, 479, 480, 481, 482, 483, 484, 461, 462, 463, 464, 465, 466, 467, 485, 486, 487, 488, 489, 490, 491, 492, 493, 494, 495, 496, 497, 498] (by decide +kernel) (by decide +kernel)
set_option maxRecDepth 20000 in
theorem gL_law_X4_init : GoodIn wsL_law (wsX4_init) := ggL_law_X4_init
set_option maxRecDepth 20000 in
theorem ggL_law_L_undo : GoodIn wsL_law wsL_undo := goodIn_ca (goodIn_r _ [62, 63, 3, 64, 65, 66, 2, 67, 68, 69, 70, 71, 72, 73, 74, 16, 75, 76, 77, 78, 17, 79, 80, 81, 15, 82, 34, 83, 84, 85, 86, 87, 88, 89, 90, 36, 91, 37, 92, 38, 39, 40, 42, 93, 94, 95, 96, 97, 98, 99, 100, 101, 102, 103, 104, 105, 20, 106, 47, 107, 108, 49, 109, 110, 111, 112, 113, 114, 461, 462, 463, 464, 465, 466, 467, 468, 469, 470, 471, 472, 473, 474, 475, 476, 477, 478, 479, 480, 481, 482, 483, 484, 485, 486, 487, 488] (by decide +kernel) (by decide +kernel)) (goodIn_sub (fun _ h => List.mem_append_left _ (List.mem_append_left _ (List.mem_append_right _ h))) (by decide +kernel))
set_option maxRecDepth 20000 in
theorem gL_law_L_undo : GoodIn wsL_law (va_wsS RL 139 yL_undo wsL_undo) := goodIn_app (goodIn_of _ (by decide +kernel)) ggL_law_L_undo
set_option maxRecDepth 20000 in
theorem ggL_law_L_refused : GoodIn wsL_law wsL_refused := goodIn_ca (goodIn_ca (goodIn_ca (goodIn_r _ [117, 5, 4, 6, 3, 118, 119, 61, 120, 121, 122, 123, 124, 125, 126, 127, 128, 129, 2, 130, 131, 132, 16, 133, 134, 135, 15, 136, 83, 84, 92, 91, 86, 87, 88, 34, 89, 85, 137, 138, 139, 140, 141, 142, 143, 144, 145, 146, 147, 148, 149, 150, 151, 152, 153, 154, 155, 156, 157, 158, 159, 160, 161, 37, 42, 162, 163, 164, 165, 166, 167, 168, 169, 38, 170, 171, 172, 20, 173, 108, 49, 174, 175, 176, 177, 178, 179, 180, 109, 181, 182, 183, 184, 185, 186, 187, 188, 189, 190, 191, 36, 192, 193, 194, 195, 196, 197, 198, 199, 200, 201, 202, 39, 40, 203, 204, 205, 63, 206, 207, 208, 209, 68, 69, 210, 21, 22, 211, 212, 213, 214, 70, 17, 75, 76, 77, 78, 79, 80, 81, 82, 90, 93, 94, 95, 96, 97, 98, 99, 100, 101, 102, 103, 104, 105, 106, 47, 107, 110, 111, 112, 113, 114, 215, 216, 217, 218, 219, 220, 221, 222, 223, 224, 225, 226, 227, 228, 229, 230, 231, 232, 233, 234, 235, 236, 237, 238, 239, 240, 241, 242, 243, 244, 245, 246, 247, 248, 249, 250, 251, 252, 253, 254, 255, 256, 257, 258, 259, 260, 261, 262, 263, 264, 265, 266, 267, 268, 269, 270, 271, 272, 273, 274, 275, 276, 277, 278, 279, 280, 281, 48, 282, 283, 284, 285, 286, 287, 288, 289, 290, 291, 292, 293, 294, 295, 296, 297, 298, 299, 300, 301, 302, 303, 304, 305, 306, 307, 308, 309, 310, 311, 312, 313, 314, 315, 316, 317, 318, 319, 320, 321, 322, 323, 324, 325, 326, 327, 328, 329, 330, 331, 332, 333, 334, 335, 336, 337, 338, 339, 340, 341, 342, 343, 344, 345, 346, 347, 26, 348, 349, 350, 25, 351, 352, 53, 353, 354, 355, 356, 357, 358, 359, 360, 361, 362, 363, 364, 365, 366, 367, 368, 369, 370, 54, 371, 372, 373, 374, 375, 376, 377, 378, 379, 380, 381, 382, 383, 384, 385, 386, 387, 388, 389, 390, 391, 392, 30, 393, 394, 395, 29, 396, 397, 58, 461, 462, 463, 464, 465, 466, 467, 468, 469, 470, 471, 472, 473, 474, 475, 476, 477, 478, 479, 480, 481, 482, 483, 484, 485, 486, 487, 488, 489, 490, 491, 492, 493, 494, 495, 496, 497, 498] (by decide +kernel) (by decide +kernel)) (goodIn_sub (fun _ h => List.mem_append_left _ (List.mem_append_right _ h)) (by decide +kernel))) (goodIn_sub (fun _ h => List.mem_append_right _ h) (by decide +kernel))) (goodIn_sub (fun _ h => List.mem_append_left _ (List.mem_append_left _ (List.mem_append_right _ h))) (by decide +kernel))
set_option maxRecDepth 20000 in
theorem gL_law_L_refused : GoodIn wsL_law (va_wsS RL 153 yL_refused wsL_refused) := goodIn_app (goodIn_of _ (by decide +kernel)) ggL_law_L_refused
set_option maxRecDepth 20000 in
theorem ggL_law_L_areDeals : GoodIn wsL_law wsL_areDeals := goodIn_ca (goodIn_ca (goodIn_r _ [400, 123, 124, 61, 125, 126, 5, 127, 128, 129, 2, 130, 131, 132, 16, 133, 134, 135, 15, 136, 83, 84, 92, 91, 86, 87, 88, 34, 89, 85, 137, 138, 139, 140, 141, 142, 143, 401, 402, 403, 404, 323, 324, 325, 147, 6, 326, 327, 328, 329, 152, 153, 289, 290, 291, 330, 331, 332, 20, 333, 47, 227, 228, 229, 110, 111, 112, 113, 108, 114, 96, 97, 98, 334, 335, 336, 337, 338, 339, 340, 154, 155, 156, 157, 405, 406, 407, 408, 409, 410, 411, 412, 413, 414, 415, 416, 417, 418, 419, 420, 178, 179, 180, 109, 174, 175, 176, 421, 422, 423, 424, 144, 145, 146, 148, 149, 150, 151, 158, 159, 160, 161, 37, 42, 162, 163, 164, 165, 166, 167, 168, 169, 38, 170, 171, 172, 173, 49, 177, 181, 182, 183, 184, 185, 186, 187, 188, 189, 190, 191, 36, 461, 462, 463, 464, 465, 466, 467, 468, 469, 470, 471, 472, 473, 474, 475, 476, 477, 478, 479, 480, 481, 482, 483, 484, 485, 486, 487, 488] (by decide +kernel) (by decide +kernel)) (goodIn_sub (fun _ h => List.mem_append_left _ (List.mem_append_right _ h)) (by decide +kernel))) (goodIn_sub (fun _ h => List.mem_append_right _ h) (by decide +kernel))
set_option maxRecDepth 20000 in
theorem gL_law_L_areDeals : GoodIn wsL_law (va_wsS RL 156 yL_areDeals wsL_areDeals) := goodIn_app (goodIn_of _ (by decide +kernel)) ggL_law_L_areDeals
set_option maxRecDepth 20000 in
theorem ggL_law_L_areGuests : GoodIn wsL_law wsL_areGuests := goodIn_ca (goodIn_ca (goodIn_r _ [427, 123, 124, 61, 125, 126, 5, 127, 128, 129, 2, 130, 131, 132, 16, 133, 134, 135, 15, 136, 83, 84, 92, 91, 86, 87, 88, 34, 89, 85, 137, 138, 139, 140, 141, 142, 143, 144, 145, 146, 147, 6, 148, 149, 150, 151, 152, 153, 154, 155, 156, 157, 158, 159, 160, 161, 37, 42, 162, 163, 164, 165, 166, 167, 168, 169, 38, 170, 171, 172, 20, 173, 108, 49, 174, 175, 176, 177, 178, 179, 180, 109, 181, 182, 183, 184, 185, 186, 187, 188, 189, 190, 191, 36, 428, 429, 430, 192, 193, 194, 195, 196, 197, 198, 199, 200, 201, 202, 39, 40, 461, 462, 463, 464, 465, 466, 467, 468, 469, 470, 471, 472, 473, 474, 475, 476, 477, 478, 479, 480, 481, 482, 483, 484, 485, 486, 487, 488] (by decide +kernel) (by decide +kernel)) (goodIn_sub (fun _ h => List.mem_append_left _ (List.mem_append_right _ h)) (by decide +kernel))) (goodIn_sub (fun _ h => List.mem_append_right _ h) (by decide +kernel))
set_option maxRecDepth 20000 in
theorem gL_law_L_areGuests : GoodIn wsL_law (va_wsS RL 145 yL_areGuests wsL_areGuests) := goodIn_app (goodIn_of _ (by decide +kernel)) ggL_law_L_areGuests
set_option maxRecDepth 20000 in
theorem ggL_law_L_cell : GoodIn wsL_law wsL_cell := goodIn_r _ [433, 434] (by decide +kernel) (by decide +kernel)
set_option maxRecDepth 20000 in
theorem gL_law_L_cell : GoodIn wsL_law (va_wsS RL 159 yL_cell wsL_cell) := goodIn_app (goodIn_of _ (by decide +kernel)) ggL_law_L_cell
set_option maxRecDepth 20000 in
theorem ggL_law_L_low : GoodIn wsL_law wsL_low := goodIn_r _ [437, 438] (by decide +kernel) (by decide +kernel)
set_option maxRecDepth 20000 in
theorem gL_law_L_low : GoodIn wsL_law (va_wsS RL 149 yL_low wsL_low) := goodIn_app (goodIn_of _ (by decide +kernel)) ggL_law_L_low
set_option maxRecDepth 20000 in
theorem ggL_law_L_print : GoodIn wsL_law wsL_print := goodIn_ca (goodIn_ca (goodIn_r _ [120, 121, 122, 123, 124, 61, 125, 126, 5, 127, 128, 129, 2, 130, 131, 132, 16, 133, 134, 135, 15, 136, 83, 84, 92, 91, 86, 87, 88, 34, 89, 85, 137, 138, 139, 140, 141, 142, 143, 144, 145, 146, 147, 6, 148, 149, 150, 151, 152, 153, 154, 155, 156, 157, 158, 159, 160, 161, 37, 42, 162, 163, 164, 165, 166, 167, 168, 169, 38, 170, 171, 172, 20, 173, 108, 49, 174, 175, 176, 177, 178, 179, 180, 109, 181, 182, 183, 184, 185, 186, 187, 188, 189, 190, 191, 36, 192, 193, 194, 195, 196, 197, 198, 199, 200, 201, 202, 39, 40, 461, 462, 463, 464, 465, 466, 467, 468, 469, 470, 471, 472, 473, 474, 475, 476, 477, 478, 479, 480, 481, 482, 483, 484, 485, 486, 487, 488] (by decide +kernel) (by decide +kernel)) (goodIn_sub (fun _ h => List.mem_append_left _ (List.mem_append_right _ h)) (by decide +kernel))) (goodIn_sub (fun _ h => List.mem_append_right _ h) (by decide +kernel))
set_option maxRecDepth 20000 in
theorem gL_law_L_print : GoodIn wsL_law (va_wsS RL 95 yL_print wsL_print) := goodIn_app (goodIn_of _ (by decide +kernel)) ggL_law_L_print
set_option maxRecDepth 20000 in
theorem ggL_law_L_acts : GoodIn wsL_law wsL_acts := goodIn_ca (goodIn_ca (goodIn_ca (goodIn_r _ [441, 123, 124, 61, 125, 126, 5, 127, 128, 129, 2, 130, 131, 132, 16, 133, 134, 135, 15, 136, 83, 84, 92, 91, 86, 87, 88, 34, 89, 85, 137, 138, 139, 140, 141, 142, 143, 435, 436, 437, 438, 203, 204, 205, 63, 3, 206, 207, 208, 209, 68, 69, 210, 21, 22, 211, 212, 213, 214, 70, 17, 75, 76, 77, 78, 79, 80, 81, 82, 90, 36, 37, 38, 39, 40, 42, 93, 94, 95, 96, 97, 98, 99, 100, 101, 102, 103, 104, 105, 20, 106, 47, 107, 108, 49, 109, 110, 111, 112, 113, 114, 215, 216, 217, 218, 219, 220, 221, 222, 223, 224, 225, 174, 175, 176, 226, 162, 163, 164, 165, 227, 228, 229, 230, 231, 232, 233, 234, 235, 236, 237, 238, 239, 240, 241, 242, 243, 244, 245, 246, 247, 248, 249, 250, 312, 313, 314, 147, 6, 315, 316, 317, 318, 152, 153, 289, 290, 291, 319, 320, 321, 322, 301, 302, 303, 304, 305, 306, 307, 154, 155, 156, 157, 292, 266, 267, 268, 269, 308, 309, 310, 311, 282, 283, 284, 285, 286, 287, 288, 293, 294, 295, 296, 188, 189, 190, 191, 297, 298, 299, 300, 278, 279, 280, 281, 48, 251, 252, 253, 254, 255, 256, 257, 258, 259, 260, 261, 262, 263, 264, 265, 270, 271, 272, 273, 274, 275, 276, 277, 185, 186, 187, 461, 462, 463, 464, 465, 466, 467, 468, 469, 470, 471, 472, 473, 474, 475, 476, 477, 478, 479, 480, 481, 482, 483, 484, 485, 486, 487, 488] (by decide +kernel) (by decide +kernel)) (goodIn_sub (fun _ h => List.mem_append_left _ (List.mem_append_right _ h)) (by decide +kernel))) (goodIn_sub (fun _ h => List.mem_append_left _ (List.mem_append_left _ (List.mem_append_right _ h))) (by decide +kernel))) (goodIn_sub (fun _ h => List.mem_append_right _ h) (by decide +kernel))
set_option maxRecDepth 20000 in
theorem gL_law_L_acts : GoodIn wsL_law (va_wsS RL 163 yL_acts wsL_acts) := goodIn_app (goodIn_of _ (by decide +kernel)) ggL_law_L_acts
set_option maxRecDepth 20000 in
theorem ggL_law_L_value : GoodIn wsL_law wsL_value := goodIn_ca (goodIn_r _ [125, 126, 5, 127, 128, 129, 2, 130, 131, 132, 16, 133, 134, 135, 15, 136, 83, 84, 92, 91, 86, 87, 88, 34, 89, 85, 137, 138, 139, 140, 141, 142, 143, 461, 462, 463, 464, 465, 466, 467, 468, 469, 470, 471, 472, 473, 474, 475, 476, 477, 478, 479, 480, 481, 482, 483, 484] (by decide +kernel) (by decide +kernel)) (goodIn_sub (fun _ h => List.mem_append_left _ (List.mem_append_right _ h)) (by decide +kernel))
set_option maxRecDepth 20000 in
theorem gL_law_L_value : GoodIn wsL_law (va_wsS RL 85 yL_value wsL_value) := goodIn_app (goodIn_of _ (by decide +kernel)) ggL_law_L_value
set_option maxRecDepth 20000 in
theorem ggL_law_L_isAsked : GoodIn wsL_law wsL_isAsked := goodIn_ca (goodIn_ca (goodIn_ca (goodIn_r _ [444, 3, 401, 402, 403, 2, 404, 16, 360, 361, 61, 362, 147, 126, 6, 5, 363, 364, 365, 366, 152, 153, 131, 132, 26, 154, 155, 156, 15, 157, 83, 258, 259, 260, 348, 349, 350, 25, 351, 352, 53, 353, 186, 20, 187, 111, 112, 113, 108, 47, 114, 96, 97, 98, 354, 175, 176, 367, 368, 369, 370, 54, 371, 372, 373, 359, 138, 139, 140, 141, 142, 143, 341, 342, 343, 344, 345, 346, 347, 355, 356, 357, 358, 118, 119, 120, 121, 122, 123, 124, 125, 127, 128, 129, 130, 133, 134, 135, 136, 84, 92, 91, 86, 87, 88, 34, 89, 85, 137, 144, 145, 146, 148, 149, 150, 151, 158, 159, 160, 161, 37, 42, 162, 163, 164, 165, 166, 167, 168, 169, 38, 170, 171, 172, 173, 49, 174, 177, 178, 179, 180, 109, 181, 182, 183, 184, 185, 188, 189, 190, 191, 36, 192, 193, 194, 195, 196, 197, 198, 199, 200, 201, 202, 39, 40, 251, 252, 253, 63, 254, 255, 256, 257, 68, 69, 261, 262, 263, 264, 90, 265, 266, 267, 268, 269, 211, 212, 213, 214, 70, 17, 75, 76, 77, 78, 79, 80, 81, 82, 93, 94, 95, 99, 100, 101, 102, 103, 104, 105, 106, 107, 110, 270, 271, 272, 273, 274, 275, 276, 277, 278, 279, 280, 281, 48, 226, 222, 223, 224, 225, 59, 60, 62, 64, 65, 66, 67, 71, 72, 73, 74, 461, 462, 463, 464, 465, 466, 467, 468, 469, 470, 471, 472, 473, 474, 475, 476, 477, 478, 479, 480, 481, 482, 483, 484, 485, 486, 487, 488, 489, 490, 491] (by decide +kernel) (by decide +kernel)) (goodIn_sub (fun _ h => List.mem_append_right _ h) (by decide +kernel))) (goodIn_sub (fun _ h => List.mem_append_left _ (List.mem_append_right _ h)) (by decide +kernel))) (goodIn_sub (fun _ h => List.mem_append_left _ (List.mem_append_left _ (List.mem_append_right _ h))) (by decide +kernel))
set_option maxRecDepth 20000 in
theorem gL_law_L_isAsked : GoodIn wsL_law (va_wsS RL 166 yL_isAsked wsL_isAsked) := goodIn_app (goodIn_of _ (by decide +kernel)) ggL_law_L_isAsked
set_option maxRecDepth 20000 in
theorem ggL_law_L_isBest : GoodIn wsL_law wsL_isBest := goodIn_ca (goodIn_ca (goodIn_r _ [447, 374, 375, 61, 376, 147, 6, 377, 378, 379, 2, 380, 152, 153, 16, 26, 154, 155, 156, 15, 157, 83, 348, 349, 350, 25, 351, 352, 53, 353, 186, 20, 187, 111, 112, 113, 108, 47, 114, 96, 97, 98, 354, 175, 176, 381, 382, 383, 384, 385, 368, 369, 370, 54, 371, 372, 373, 359, 138, 139, 140, 141, 142, 143, 360, 361, 362, 126, 5, 363, 364, 365, 366, 131, 132, 258, 259, 260, 367, 428, 429, 430, 461, 462, 463, 464, 465, 466, 467, 468, 469, 470, 471, 472, 473, 474, 475, 476, 477, 478, 479, 480, 481, 482, 483, 484, 489, 490, 491, 485, 486, 487, 488] (by decide +kernel) (by decide +kernel)) (goodIn_sub (fun _ h => List.mem_append_right _ h) (by decide +kernel))) (goodIn_sub (fun _ h => List.mem_append_left _ (List.mem_append_right _ h)) (by decide +kernel))
set_option maxRecDepth 20000 in
theorem gL_law_L_isBest : GoodIn wsL_law (va_wsS RL 170 yL_isBest wsL_isBest) := goodIn_app (goodIn_of _ (by decide +kernel)) ggL_law_L_isBest
set_option maxRecDepth 20000 in
theorem ggL_law_L_isProved : GoodIn wsL_law wsL_isProved := goodIn_ca (goodIn_ca (goodIn_ca (goodIn_r _ [450, 3, 118, 119, 61, 120, 121, 122, 123, 124, 125, 126, 5, 127, 128, 129, 2, 130, 131, 132, 16, 133, 134, 135, 15, 136, 83, 84, 92, 91, 86, 87, 88, 34, 89, 85, 137, 138, 139, 140, 141, 142, 143, 144, 145, 146, 147, 6, 148, 149, 150, 151, 152, 153, 154, 155, 156, 157, 158, 159, 160, 161, 37, 42, 162, 163, 164, 165, 166, 167, 168, 169, 38, 170, 171, 172, 20, 173, 108, 49, 174, 175, 176, 177, 178, 179, 180, 109, 181, 182, 183, 184, 185, 186, 187, 188, 189, 190, 191, 36, 192, 193, 194, 195, 196, 197, 198, 199, 200, 201, 202, 39, 40, 401, 402, 403, 404, 334, 335, 336, 337, 338, 339, 340, 289, 290, 291, 330, 331, 332, 333, 47, 227, 228, 229, 110, 111, 112, 113, 114, 96, 97, 98, 451, 452, 453, 408, 454, 455, 456, 457, 413, 414, 415, 282, 283, 284, 63, 285, 286, 287, 288, 68, 69, 292, 266, 267, 268, 269, 211, 212, 213, 214, 70, 17, 75, 76, 77, 78, 79, 80, 81, 82, 90, 93, 94, 95, 99, 100, 101, 102, 103, 104, 105, 106, 107, 293, 294, 295, 296, 297, 298, 299, 300, 278, 279, 280, 281, 48, 222, 223, 224, 225, 59, 60, 62, 64, 65, 66, 67, 71, 72, 73, 74, 461, 462, 463, 464, 465, 466, 467, 468, 469, 470, 471, 472, 473, 474, 475, 476, 477, 478, 479, 480, 481, 482, 483, 484, 485, 486, 487, 488] (by decide +kernel) (by decide +kernel)) (goodIn_sub (fun _ h => List.mem_append_left _ (List.mem_append_right _ h)) (by decide +kernel))) (goodIn_sub (fun _ h => List.mem_append_right _ h) (by decide +kernel))) (goodIn_sub (fun _ h => List.mem_append_left _ (List.mem_append_left _ (List.mem_append_right _ h))) (by decide +kernel))
set_option maxRecDepth 20000 in
theorem gL_law_L_isProved : GoodIn wsL_law (va_wsS RL 174 yL_isProved wsL_isProved) := goodIn_app (goodIn_of _ (by decide +kernel)) ggL_law_L_isProved
set_option maxRecDepth 20000 in
theorem ggL_law_L_isAccused : GoodIn wsL_law wsL_isAccused := goodIn_ca (goodIn_ca (goodIn_ca (goodIn_r _ [460, 123, 124, 61, 125, 126, 5, 127, 128, 129, 2, 130, 131, 132, 16, 133, 134, 135, 15, 136, 83, 84, 92, 91, 86, 87, 88, 34, 89, 85, 137, 138, 139, 140, 141, 142, 143, 118, 119, 120, 121, 122, 144, 145, 146, 147, 6, 148, 149, 150, 151, 152, 153, 154, 155, 156, 157, 158, 159, 160, 161, 37, 42, 162, 163, 164, 165, 166, 167, 168, 169, 38, 170, 171, 172, 20, 173, 108, 49, 174, 175, 176, 177, 178, 179, 180, 109, 181, 182, 183, 184, 185, 186, 187, 188, 189, 190, 191, 36, 192, 193, 194, 195, 196, 197, 198, 199, 200, 201, 202, 39, 40, 416, 417, 418, 419, 420, 312, 313, 314, 63, 3, 315, 316, 317, 318, 68, 69, 289, 290, 291, 211, 212, 213, 214, 70, 17, 75, 76, 77, 78, 79, 80, 81, 82, 90, 93, 94, 95, 96, 97, 98, 99, 100, 101, 102, 103, 104, 105, 106, 47, 107, 110, 111, 112, 113, 114, 319, 320, 321, 322, 425, 426, 427, 428, 429, 430, 59, 60, 62, 64, 65, 66, 67, 71, 72, 73, 74, 461, 462, 463, 464, 465, 466, 467, 468, 469, 470, 471, 472, 473, 474, 475, 476, 477, 478, 479, 480, 481, 482, 483, 484, 485, 486, 487, 488] (by decide +kernel) (by decide +kernel)) (goodIn_sub (fun _ h => List.mem_append_left _ (List.mem_append_right _ h)) (by decide +kernel))) (goodIn_sub (fun _ h => List.mem_append_right _ h) (by decide +kernel))) (goodIn_sub (fun _ h => List.mem_append_left _ (List.mem_append_left _ (List.mem_append_right _ h))) (by decide +kernel))
set_option maxRecDepth 20000 in
theorem gL_law_L_isAccused : GoodIn wsL_law (va_wsS RL 178 yL_isAccused wsL_isAccused) := goodIn_app (goodIn_of _ (by decide +kernel)) ggL_law_L_isAccused
