set_option maxRecDepth 20000 in
theorem ggL_isAsked_L_ask_x4 : GoodIn wsL_isAsked wsX40 := goodIn_r _ [241, 242, 243, 244, 245, 246, 247] (by decide +kernel) (by decide +kernel)
set_option maxRecDepth 20000 in
theorem ggL_isAsked_L_ask_x1 : GoodIn wsL_isAsked wsX10 := goodIn_r _ [248, 249, 250, 251, 252, 253, 254, 255, 256, 257, 258, 259, 260, 261, 262, 263, 264] (by decide +kernel) (by decide +kernel)
set_option maxRecDepth 20000 in
theorem ggL_isAsked_L_ask_x0 : GoodIn wsL_isAsked wsX00 := goodIn_r _ [265, 266, 267, 268] (by decide +kernel) (by decide +kernel)
set_option maxRecDepth 20000 in
theorem ggL_isAsked_L_ask : GoodIn wsL_isAsked wsL_ask := goodIn_ca (goodIn_ca (goodIn_ca (goodIn_cc ggL_isAsked_L_ask_h (goodIn_app (goodIn_app (goodIn_app (goodIn_app ggL_isAsked_L_ask_r1 (goodIn_app ggL_isAsked_L_ask_r2 (goodIn_app ggL_isAsked_L_ask_r3 (goodIn_app ggL_isAsked_L_ask_r4 (goodIn_app ggL_isAsked_L_ask_r5 (ggL_isAsked_L_ask_r6)))))) ggL_isAsked_L_ask_x4) ggL_isAsked_L_ask_x1) ggL_isAsked_L_ask_x0)) (goodIn_sub (fun _ h => List.mem_cons_of_mem _ (List.mem_append_left _ (List.mem_append_left _ (List.mem_append_right _ h)))) (by decide +kernel))) (goodIn_sub (fun _ h => List.mem_cons_of_mem _ (List.mem_append_left _ (List.mem_append_right _ h))) (by decide +kernel))) (goodIn_sub (fun _ h => List.mem_cons_of_mem _ (List.mem_append_right _ h)) (by decide +kernel))
set_option maxRecDepth 20000 in
theorem gL_isAsked_L_ask : GoodIn wsL_isAsked (va_wsS RL 102 yL_ask wsL_ask) := goodIn_app (goodIn_of _ (by decide +kernel)) ggL_isAsked_L_ask
set_option maxRecDepth 20000 in
theorem ggL_isAsked_L_question : GoodIn wsL_isAsked wsL_question := goodIn_ca (goodIn_ca (goodIn_r _ [154, 12, 13, 14, 15, 155, 156, 157, 5, 158, 20, 21, 22, 23, 7, 159, 160, 161, 28, 162, 130, 163, 164, 241, 242, 243, 244, 245, 246, 247, 248, 249, 250, 251, 252, 253, 254, 255, 256, 257, 258, 259, 260, 261, 262, 263, 264] (by decide +kernel) (by decide +kernel)) (goodIn_sub (fun _ h => List.mem_cons_of_mem _ (List.mem_append_left _ (List.mem_append_left _ (List.mem_append_right _ h)))) (by decide +kernel))) (goodIn_sub (fun _ h => List.mem_cons_of_mem _ (List.mem_append_left _ (List.mem_append_right _ h))) (by decide +kernel))
set_option maxRecDepth 20000 in
theorem gL_isAsked_L_question : GoodIn wsL_isAsked (va_wsS RL 93 yL_question wsL_question) := goodIn_app (goodIn_of _ (by decide +kernel)) ggL_isAsked_L_question
set_option maxRecDepth 20000 in
theorem ggL_isAsked_L_undo_h : GoodIn wsL_isAsked [.codeWith yL_undo cL_undo 3 (some .int) [(0, 5, 8, 18)]] := goodIn_r _ [232] (by decide +kernel) (by decide +kernel)
set_option maxRecDepth 20000 in
theorem ggL_isAsked_L_undo_r1 : GoodIn wsL_isAsked wsL_undo_r1 := goodIn_r _ [168, 1, 233, 234, 235, 5, 236, 173, 174, 189, 237, 238, 239, 240, 7, 191, 192, 193, 194, 190, 195, 196, 197, 28] (by decide +kernel) (by decide +kernel)
set_option maxRecDepth 20000 in
theorem ggL_isAsked_L_undo_r2 : GoodIn wsL_isAsked wsL_undo_r2 := goodIn_r _ [198, 105, 30, 99, 107, 102, 103, 104, 106, 179, 151, 101, 120, 100, 130, 163, 164, 121, 199, 200, 201, 51, 52, 53] (by decide +kernel) (by decide +kernel)
set_option maxRecDepth 20000 in
theorem ggL_isAsked_L_undo_r3 : GoodIn wsL_isAsked wsL_undo_r3 := goodIn_r _ [202, 203, 204, 205, 206, 207, 208, 43, 209, 49, 210, 48, 135, 141, 211, 45, 46, 47, 50] (by decide +kernel) (by decide +kernel)
set_option maxRecDepth 20000 in
theorem ggL_isAsked_L_undo_x4 : GoodIn wsL_isAsked wsX40 := goodIn_r _ [241, 242, 243, 244, 245, 246, 247] (by decide +kernel) (by decide +kernel)
set_option maxRecDepth 20000 in
theorem ggL_isAsked_L_undo_x1 : GoodIn wsL_isAsked wsX10 := goodIn_r _ [248, 249, 250, 251, 252, 253, 254, 255, 256, 257, 258, 259, 260, 261, 262, 263, 264] (by decide +kernel) (by decide +kernel)
set_option maxRecDepth 20000 in
theorem ggL_isAsked_L_undo_x0 : GoodIn wsL_isAsked wsX00 := goodIn_r _ [265, 266, 267, 268] (by decide +kernel) (by decide +kernel)
set_option maxRecDepth 20000 in
theorem ggL_isAsked_L_undo : GoodIn wsL_isAsked wsL_undo := goodIn_ca (goodIn_cc ggL_isAsked_L_undo_h (goodIn_app (goodIn_app (goodIn_app (goodIn_app ggL_isAsked_L_undo_r1 (goodIn_app ggL_isAsked_L_undo_r2 (ggL_isAsked_L_undo_r3))) ggL_isAsked_L_undo_x4) ggL_isAsked_L_undo_x1) ggL_isAsked_L_undo_x0)) (goodIn_sub (fun _ h => List.mem_cons_of_mem _ (List.mem_append_right _ h)) (by decide +kernel))
set_option maxRecDepth 20000 in
theorem gL_isAsked_L_undo : GoodIn wsL_isAsked (va_wsS RL 139 yL_undo wsL_undo) := goodIn_app (goodIn_of _ (by decide +kernel)) ggL_isAsked_L_undo
theorem dL_isAsked_0 : decode cL_isAsked 0 = .ok (.aload_n 0, 1) := by decide +kernel
theorem dL_isAsked_1 : decode cL_isAsked 1 = .ok (.invokevirtual 124, 3) := by decide +kernel
theorem dL_isAsked_4 : decode cL_isAsked 4 = .ok (.istore 4, 2) := by decide +kernel
theorem dL_isAsked_6 : decode cL_isAsked 6 = .ok (.aload_n 0, 1) := by decide +kernel
theorem dL_isAsked_7 : decode cL_isAsked 7 = .ok (.iload_n 1, 1) := by decide +kernel
theorem dL_isAsked_8 : decode cL_isAsked 8 = .ok (.iload_n 2, 1) := by decide +kernel
theorem dL_isAsked_9 : decode cL_isAsked 9 = .ok (.invokestatic 118, 3) := by decide +kernel
theorem dL_isAsked_12 : decode cL_isAsked 12 = .ok (.istore 5, 2) := by decide +kernel
theorem dL_isAsked_14 : decode cL_isAsked 14 = .ok (.iconst 0, 1) := by decide +kernel
theorem dL_isAsked_15 : decode cL_isAsked 15 = .ok (.istore 6, 2) := by decide +kernel
theorem dL_isAsked_17 : decode cL_isAsked 17 = .ok (.iconst 1, 1) := by decide +kernel
theorem dL_isAsked_18 : decode cL_isAsked 18 = .ok (.istore 7, 2) := by decide +kernel
theorem dL_isAsked_20 : decode cL_isAsked 20 = .ok (.iconst 0, 1) := by decide +kernel
theorem dL_isAsked_21 : decode cL_isAsked 21 = .ok (.istore 8, 2) := by decide +kernel
theorem dL_isAsked_23 : decode cL_isAsked 23 = .ok (.iload 8, 2) := by decide +kernel
theorem dL_isAsked_25 : decode cL_isAsked 25 = .ok (.bipush 9, 2) := by decide +kernel
theorem dL_isAsked_27 : decode cL_isAsked 27 = .ok (.if_icmp .ge 59, 3) := by decide +kernel
theorem dL_isAsked_30 : decode cL_isAsked 30 = .ok (.iload 7, 2) := by decide +kernel
theorem dL_isAsked_32 : decode cL_isAsked 32 = .ok (.ifCond .eq 54, 3) := by decide +kernel
theorem dL_isAsked_35 : decode cL_isAsked 35 = .ok (.aload_n 0, 1) := by decide +kernel
theorem dL_isAsked_36 : decode cL_isAsked 36 = .ok (.iload_n 1, 1) := by decide +kernel
theorem dL_isAsked_37 : decode cL_isAsked 37 = .ok (.iload_n 2, 1) := by decide +kernel
theorem dL_isAsked_38 : decode cL_isAsked 38 = .ok (.iload 8, 2) := by decide +kernel
theorem dL_isAsked_40 : decode cL_isAsked 40 = .ok (.invokestatic 115, 3) := by decide +kernel
theorem dL_isAsked_43 : decode cL_isAsked 43 = .ok (.istore 9, 2) := by decide +kernel
theorem dL_isAsked_45 : decode cL_isAsked 45 = .ok (.iload 9, 2) := by decide +kernel
theorem dL_isAsked_47 : decode cL_isAsked 47 = .ok (.iload 6, 2) := by decide +kernel
theorem dL_isAsked_49 : decode cL_isAsked 49 = .ok (.if_icmp .le 8, 3) := by decide +kernel
theorem dL_isAsked_52 : decode cL_isAsked 52 = .ok (.iload 9, 2) := by decide +kernel
theorem dL_isAsked_54 : decode cL_isAsked 54 = .ok (.goto 5, 3) := by decide +kernel
theorem dL_isAsked_57 : decode cL_isAsked 57 = .ok (.iload 6, 2) := by decide +kernel
theorem dL_isAsked_59 : decode cL_isAsked 59 = .ok (.istore 6, 2) := by decide +kernel
theorem dL_isAsked_61 : decode cL_isAsked 61 = .ok (.iload 9, 2) := by decide +kernel
theorem dL_isAsked_63 : decode cL_isAsked 63 = .ok (.ifCond .lt 14, 3) := by decide +kernel
theorem dL_isAsked_66 : decode cL_isAsked 66 = .ok (.iload 9, 2) := by decide +kernel
theorem dL_isAsked_68 : decode cL_isAsked 68 = .ok (.iload 4, 2) := by decide +kernel
theorem dL_isAsked_70 : decode cL_isAsked 70 = .ok (.if_icmp .gt 7, 3) := by decide +kernel
theorem dL_isAsked_73 : decode cL_isAsked 73 = .ok (.iconst 1, 1) := by decide +kernel
theorem dL_isAsked_74 : decode cL_isAsked 74 = .ok (.goto 4, 3) := by decide +kernel
theorem dL_isAsked_77 : decode cL_isAsked 77 = .ok (.iconst 0, 1) := by decide +kernel
theorem dL_isAsked_78 : decode cL_isAsked 78 = .ok (.istore 7, 2) := by decide +kernel
theorem dL_isAsked_80 : decode cL_isAsked 80 = .ok (.iinc 8 1, 3) := by decide +kernel
theorem dL_isAsked_83 : decode cL_isAsked 83 = .ok (.goto (-60), 3) := by decide +kernel
theorem dL_isAsked_86 : decode cL_isAsked 86 = .ok (.iload 7, 2) := by decide +kernel
theorem dL_isAsked_88 : decode cL_isAsked 88 = .ok (.ifCond .eq 14, 3) := by decide +kernel
theorem dL_isAsked_91 : decode cL_isAsked 91 = .ok (.iload 5, 2) := by decide +kernel
theorem dL_isAsked_93 : decode cL_isAsked 93 = .ok (.iload 6, 2) := by decide +kernel
theorem dL_isAsked_95 : decode cL_isAsked 95 = .ok (.if_icmp .ne 7, 3) := by decide +kernel
theorem dL_isAsked_98 : decode cL_isAsked 98 = .ok (.iconst 1, 1) := by decide +kernel
theorem dL_isAsked_99 : decode cL_isAsked 99 = .ok (.goto 4, 3) := by decide +kernel
theorem dL_isAsked_102 : decode cL_isAsked 102 = .ok (.iconst 0, 1) := by decide +kernel
theorem dL_isAsked_103 : decode cL_isAsked 103 = .ok (.istore 7, 2) := by decide +kernel
theorem dL_isAsked_105 : decode cL_isAsked 105 = .ok (.aload_n 0, 1) := by decide +kernel
theorem dL_isAsked_106 : decode cL_isAsked 106 = .ok (.invokestatic 95, 3) := by decide +kernel
theorem dL_isAsked_109 : decode cL_isAsked 109 = .ok (.lstore 8, 2) := by decide +kernel
theorem dL_isAsked_111 : decode cL_isAsked 111 = .ok (.aload_n 0, 1) := by decide +kernel
theorem dL_isAsked_112 : decode cL_isAsked 112 = .ok (.iconst 2, 1) := by decide +kernel
theorem dL_isAsked_113 : decode cL_isAsked 113 = .ok (.invokestatic 85, 3) := by decide +kernel
theorem dL_isAsked_116 : decode cL_isAsked 116 = .ok (.istore 10, 2) := by decide +kernel
theorem dL_isAsked_118 : decode cL_isAsked 118 = .ok (.aload_n 0, 1) := by decide +kernel
theorem dL_isAsked_119 : decode cL_isAsked 119 = .ok (.iload_n 1, 1) := by decide +kernel
theorem dL_isAsked_120 : decode cL_isAsked 120 = .ok (.iload_n 2, 1) := by decide +kernel
theorem dL_isAsked_121 : decode cL_isAsked 121 = .ok (.iload_n 3, 1) := by decide +kernel
theorem dL_isAsked_122 : decode cL_isAsked 122 = .ok (.invokestatic 102, 3) := by decide +kernel
theorem dL_isAsked_125 : decode cL_isAsked 125 = .ok (.istore 11, 2) := by decide +kernel
theorem dL_isAsked_127 : decode cL_isAsked 127 = .ok (.iload 11, 2) := by decide +kernel
theorem dL_isAsked_129 : decode cL_isAsked 129 = .ok (.ldc 20, 2) := by decide +kernel
theorem dL_isAsked_131 : decode cL_isAsked 131 = .ok (.if_icmp .ne 24, 3) := by decide +kernel
theorem dL_isAsked_134 : decode cL_isAsked 134 = .ok (.iload 7, 2) := by decide +kernel
theorem dL_isAsked_136 : decode cL_isAsked 136 = .ok (.ifCond .eq 17, 3) := by decide +kernel
theorem dL_isAsked_139 : decode cL_isAsked 139 = .ok (.aload_n 0, 1) := by decide +kernel
theorem dL_isAsked_140 : decode cL_isAsked 140 = .ok (.invokestatic 95, 3) := by decide +kernel
theorem dL_isAsked_143 : decode cL_isAsked 143 = .ok (.lload 8, 2) := by decide +kernel
theorem dL_isAsked_145 : decode cL_isAsked 145 = .ok (.lcmp, 1) := by decide +kernel
theorem dL_isAsked_146 : decode cL_isAsked 146 = .ok (.ifCond .ne 7, 3) := by decide +kernel
theorem dL_isAsked_149 : decode cL_isAsked 149 = .ok (.iconst 1, 1) := by decide +kernel
theorem dL_isAsked_150 : decode cL_isAsked 150 = .ok (.goto 4, 3) := by decide +kernel
theorem dL_isAsked_153 : decode cL_isAsked 153 = .ok (.iconst 0, 1) := by decide +kernel
theorem dL_isAsked_154 : decode cL_isAsked 154 = .ok (.ireturn, 1) := by decide +kernel
theorem dL_isAsked_155 : decode cL_isAsked 155 = .ok (.aload_n 0, 1) := by decide +kernel
theorem dL_isAsked_156 : decode cL_isAsked 156 = .ok (.invokevirtual 124, 3) := by decide +kernel
theorem dL_isAsked_159 : decode cL_isAsked 159 = .ok (.istore 12, 2) := by decide +kernel
theorem dL_isAsked_161 : decode cL_isAsked 161 = .ok (.iload 7, 2) := by decide +kernel
theorem dL_isAsked_163 : decode cL_isAsked 163 = .ok (.ifCond .eq 72, 3) := by decide +kernel
theorem dL_isAsked_166 : decode cL_isAsked 166 = .ok (.aload_n 0, 1) := by decide +kernel
theorem dL_isAsked_167 : decode cL_isAsked 167 = .ok (.iconst 2, 1) := by decide +kernel
theorem dL_isAsked_168 : decode cL_isAsked 168 = .ok (.invokestatic 85, 3) := by decide +kernel
theorem dL_isAsked_171 : decode cL_isAsked 171 = .ok (.iload 10, 2) := by decide +kernel
theorem dL_isAsked_173 : decode cL_isAsked 173 = .ok (.iconst 1, 1) := by decide +kernel
theorem dL_isAsked_174 : decode cL_isAsked 174 = .ok (.iadd, 1) := by decide +kernel
theorem dL_isAsked_175 : decode cL_isAsked 175 = .ok (.if_icmp .ne 60, 3) := by decide +kernel
theorem dL_isAsked_178 : decode cL_isAsked 178 = .ok (.aload_n 0, 1) := by decide +kernel
theorem dL_isAsked_179 : decode cL_isAsked 179 = .ok (.iload 10, 2) := by decide +kernel
theorem dL_isAsked_181 : decode cL_isAsked 181 = .ok (.iconst 0, 1) := by decide +kernel
theorem dL_isAsked_182 : decode cL_isAsked 182 = .ok (.invokestatic 93, 3) := by decide +kernel
theorem dL_isAsked_185 : decode cL_isAsked 185 = .ok (.iload_n 1, 1) := by decide +kernel
theorem dL_isAsked_186 : decode cL_isAsked 186 = .ok (.if_icmp .ne 49, 3) := by decide +kernel
theorem dL_isAsked_189 : decode cL_isAsked 189 = .ok (.aload_n 0, 1) := by decide +kernel
theorem dL_isAsked_190 : decode cL_isAsked 190 = .ok (.iload 10, 2) := by decide +kernel
theorem dL_isAsked_192 : decode cL_isAsked 192 = .ok (.iconst 1, 1) := by decide +kernel
theorem dL_isAsked_193 : decode cL_isAsked 193 = .ok (.invokestatic 93, 3) := by decide +kernel
theorem dL_isAsked_196 : decode cL_isAsked 196 = .ok (.iload_n 2, 1) := by decide +kernel
theorem dL_isAsked_197 : decode cL_isAsked 197 = .ok (.if_icmp .ne 38, 3) := by decide +kernel
theorem dL_isAsked_200 : decode cL_isAsked 200 = .ok (.aload_n 0, 1) := by decide +kernel
theorem dL_isAsked_201 : decode cL_isAsked 201 = .ok (.iload 10, 2) := by decide +kernel
theorem dL_isAsked_203 : decode cL_isAsked 203 = .ok (.iconst 2, 1) := by decide +kernel
theorem dL_isAsked_204 : decode cL_isAsked 204 = .ok (.invokestatic 93, 3) := by decide +kernel
theorem dL_isAsked_207 : decode cL_isAsked 207 = .ok (.iload 11, 2) := by decide +kernel
theorem dL_isAsked_209 : decode cL_isAsked 209 = .ok (.if_icmp .ne 26, 3) := by decide +kernel
theorem dL_isAsked_212 : decode cL_isAsked 212 = .ok (.iload 12, 2) := by decide +kernel
theorem dL_isAsked_214 : decode cL_isAsked 214 = .ok (.ifCond .le 21, 3) := by decide +kernel
theorem dL_isAsked_217 : decode cL_isAsked 217 = .ok (.iload 12, 2) := by decide +kernel
theorem dL_isAsked_219 : decode cL_isAsked 219 = .ok (.iload 5, 2) := by decide +kernel
theorem dL_isAsked_221 : decode cL_isAsked 221 = .ok (.if_icmp .gt 14, 3) := by decide +kernel
theorem dL_isAsked_224 : decode cL_isAsked 224 = .ok (.aload_n 0, 1) := by decide +kernel
theorem dL_isAsked_225 : decode cL_isAsked 225 = .ok (.invokestatic 139, 3) := by decide +kernel
theorem dL_isAsked_228 : decode cL_isAsked 228 = .ok (.ifCond .lt 7, 3) := by decide +kernel
theorem dL_isAsked_231 : decode cL_isAsked 231 = .ok (.iconst 1, 1) := by decide +kernel
theorem dL_isAsked_232 : decode cL_isAsked 232 = .ok (.goto 4, 3) := by decide +kernel
theorem dL_isAsked_235 : decode cL_isAsked 235 = .ok (.iconst 0, 1) := by decide +kernel
theorem dL_isAsked_236 : decode cL_isAsked 236 = .ok (.istore 7, 2) := by decide +kernel
theorem dL_isAsked_238 : decode cL_isAsked 238 = .ok (.iload 7, 2) := by decide +kernel
theorem dL_isAsked_240 : decode cL_isAsked 240 = .ok (.ifCond .eq 30, 3) := by decide +kernel
theorem dL_isAsked_243 : decode cL_isAsked 243 = .ok (.aload_n 0, 1) := by decide +kernel
theorem dL_isAsked_244 : decode cL_isAsked 244 = .ok (.iload_n 1, 1) := by decide +kernel
theorem dL_isAsked_245 : decode cL_isAsked 245 = .ok (.iload_n 2, 1) := by decide +kernel
theorem dL_isAsked_246 : decode cL_isAsked 246 = .ok (.iload 11, 2) := by decide +kernel
theorem dL_isAsked_248 : decode cL_isAsked 248 = .ok (.invokestatic 115, 3) := by decide +kernel
theorem dL_isAsked_251 : decode cL_isAsked 251 = .ok (.iload 12, 2) := by decide +kernel
theorem dL_isAsked_253 : decode cL_isAsked 253 = .ok (.if_icmp .ne 17, 3) := by decide +kernel
theorem dL_isAsked_256 : decode cL_isAsked 256 = .ok (.aload_n 0, 1) := by decide +kernel
theorem dL_isAsked_257 : decode cL_isAsked 257 = .ok (.invokestatic 95, 3) := by decide +kernel
theorem dL_isAsked_260 : decode cL_isAsked 260 = .ok (.lload 8, 2) := by decide +kernel
theorem dL_isAsked_262 : decode cL_isAsked 262 = .ok (.lcmp, 1) := by decide +kernel
theorem dL_isAsked_263 : decode cL_isAsked 263 = .ok (.ifCond .ne 7, 3) := by decide +kernel
theorem dL_isAsked_266 : decode cL_isAsked 266 = .ok (.iconst 1, 1) := by decide +kernel
theorem dL_isAsked_267 : decode cL_isAsked 267 = .ok (.goto 4, 3) := by decide +kernel
theorem dL_isAsked_270 : decode cL_isAsked 270 = .ok (.iconst 0, 1) := by decide +kernel
theorem dL_isAsked_271 : decode cL_isAsked 271 = .ok (.ireturn, 1) := by decide +kernel
set_option maxRecDepth 20000 in
theorem ggL_isBest_L_bestCards_h : GoodIn wsL_isBest [.codeWith yL_bestCards cL_bestCards 4 (some .int) [(0, 6, 9, 25)]] := goodIn_r _ [4] (by decide +kernel) (by decide +kernel)
set_option maxRecDepth 20000 in
theorem ggL_isBest_L_bestCards_r1 : GoodIn wsL_isBest wsL_bestCards_r1 := goodIn_r _ [5, 6, 7, 8, 9, 10, 11, 12, 13, 14, 15, 16, 17, 18, 19, 20, 21, 22, 23, 24, 25, 26, 27, 28] (by decide +kernel) (by decide +kernel)
set_option maxRecDepth 20000 in
theorem ggL_isBest_L_bestCards_r2 : GoodIn wsL_isBest wsL_bestCards_r2 := goodIn_r _ [29, 30, 31, 32, 33, 34, 35, 36, 37, 38, 39, 40, 41, 42, 43, 44, 45, 46, 47, 48, 49, 50, 51, 52] (by decide +kernel) (by decide +kernel)
set_option maxRecDepth 20000 in
theorem ggL_isBest_L_bestCards_r3 : GoodIn wsL_isBest wsL_bestCards_r3 := goodIn_r _ [53, 54, 55, 56, 57, 58, 59, 60, 61, 62, 63] (by decide +kernel) (by decide +kernel)
set_option maxRecDepth 20000 in
theorem ggL_isBest_L_bestCards_x4 : GoodIn wsL_isBest wsX40 := goodIn_r _ [82, 83, 84, 85, 86, 87, 88] (by decide +kernel) (by decide +kernel)
set_option maxRecDepth 20000 in
theorem ggL_isBest_L_bestCards_x1 : GoodIn wsL_isBest wsX10 := goodIn_r _ [89, 90, 91, 92, 93, 94, 95, 96, 97, 98, 99, 100, 101, 102, 103, 104, 105] (by decide +kernel) (by decide +kernel)
set_option maxRecDepth 20000 in
theorem ggL_isBest_L_bestCards_x2 : GoodIn wsL_isBest wsX20 := goodIn_r _ [106, 107, 108] (by decide +kernel) (by decide +kernel)
