set_option maxRecDepth 20000 in
theorem ggL_refused_L_worst_r3 : GoodIn wsL_refused wsL_worst_r3 := goodIn_r _ [320, 321, 322, 323, 324, 325, 326, 311, 39, 40, 41, 42, 43, 44] (by decide +kernel) (by decide +kernel)
set_option maxRecDepth 20000 in
theorem ggL_refused_L_worst_x4 : GoodIn wsL_refused wsX40 := goodIn_r _ [354, 355, 356, 357, 358, 359, 360] (by decide +kernel) (by decide +kernel)
set_option maxRecDepth 20000 in
theorem ggL_refused_L_worst_x1 : GoodIn wsL_refused wsX10 := goodIn_r _ [361, 362, 363, 364, 365, 366, 367, 368, 369, 370, 371, 372, 373, 374, 375, 376, 377] (by decide +kernel) (by decide +kernel)
set_option maxRecDepth 20000 in
theorem ggL_refused_L_worst_x2 : GoodIn wsL_refused wsX20 := goodIn_r _ [382, 383, 384] (by decide +kernel) (by decide +kernel)
set_option maxRecDepth 20000 in
theorem ggL_refused_L_worst_x0 : GoodIn wsL_refused wsX00 := goodIn_r _ [378, 379, 380, 381] (by decide +kernel) (by decide +kernel)
set_option maxRecDepth 20000 in
theorem ggL_refused_L_worst : GoodIn wsL_refused wsL_worst := goodIn_ca (goodIn_ca (goodIn_cc ggL_refused_L_worst_h (goodIn_app (goodIn_app (goodIn_app (goodIn_app (goodIn_app ggL_refused_L_worst_r1 (goodIn_app ggL_refused_L_worst_r2 (ggL_refused_L_worst_r3))) ggL_refused_L_worst_x4) ggL_refused_L_worst_x1) ggL_refused_L_worst_x2) ggL_refused_L_worst_x0)) (goodIn_sub (fun _ h => List.mem_cons_of_mem _ (List.mem_append_left _ (List.mem_append_right _ h))) (by decide +kernel))) (goodIn_sub (fun _ h => List.mem_cons_of_mem _ (List.mem_append_left _ (List.mem_append_left _ (List.mem_append_right _ h)))) (by decide +kernel))
set_option maxRecDepth 20000 in
theorem gL_refused_L_worst : GoodIn wsL_refused (va_wsS RL 118 yL_worst wsL_worst) := goodIn_app (goodIn_of _ (by decide +kernel)) ggL_refused_L_worst
set_option maxRecDepth 20000 in
theorem ggL_refused_L_bestCards_h : GoodIn wsL_refused [.codeWith yL_bestCards cL_bestCards 4 (some .int) [(0, 6, 9, 25)]] := goodIn_r _ [329] (by decide +kernel) (by decide +kernel)
set_option maxRecDepth 20000 in
theorem ggL_refused_L_bestCards_r1 : GoodIn wsL_refused wsL_bestCards_r1 := goodIn_r _ [48, 3, 330, 331, 332, 18, 333, 53, 54, 22, 297, 55, 56, 57, 26, 58, 28, 298, 299, 300, 301, 302, 303, 304] (by decide +kernel) (by decide +kernel)
set_option maxRecDepth 20000 in
theorem ggL_refused_L_bestCards_r2 : GoodIn wsL_refused wsL_bestCards_r2 := goodIn_r _ [305, 94, 77, 95, 159, 160, 161, 79, 156, 162, 145, 146, 147, 306, 82, 83, 334, 335, 336, 337, 338, 320, 321, 322] (by decide +kernel) (by decide +kernel)
set_option maxRecDepth 20000 in
theorem ggL_refused_L_bestCards_r3 : GoodIn wsL_refused wsL_bestCards_r3 := goodIn_r _ [323, 324, 325, 326, 311, 39, 40, 41, 42, 43, 44] (by decide +kernel) (by decide +kernel)
set_option maxRecDepth 20000 in
theorem ggL_refused_L_bestCards_x4 : GoodIn wsL_refused wsX40 := goodIn_r _ [354, 355, 356, 357, 358, 359, 360] (by decide +kernel) (by decide +kernel)
set_option maxRecDepth 20000 in
theorem ggL_refused_L_bestCards_x1 : GoodIn wsL_refused wsX10 := goodIn_r _ [361, 362, 363, 364, 365, 366, 367, 368, 369, 370, 371, 372, 373, 374, 375, 376, 377] (by decide +kernel) (by decide +kernel)
set_option maxRecDepth 20000 in
theorem ggL_refused_L_bestCards_x2 : GoodIn wsL_refused wsX20 := goodIn_r _ [382, 383, 384] (by decide +kernel) (by decide +kernel)
set_option maxRecDepth 20000 in
theorem ggL_refused_L_bestCards_x0 : GoodIn wsL_refused wsX00 := goodIn_r _ [378, 379, 380, 381] (by decide +kernel) (by decide +kernel)
set_option maxRecDepth 20000 in
theorem ggL_refused_L_bestCards : GoodIn wsL_refused wsL_bestCards := goodIn_ca (goodIn_cc ggL_refused_L_bestCards_h (goodIn_app (goodIn_app (goodIn_app (goodIn_app (goodIn_app ggL_refused_L_bestCards_r1 (goodIn_app ggL_refused_L_bestCards_r2 (ggL_refused_L_bestCards_r3))) ggL_refused_L_bestCards_x4) ggL_refused_L_bestCards_x1) ggL_refused_L_bestCards_x2) ggL_refused_L_bestCards_x0)) (goodIn_sub (fun _ h => List.mem_cons_of_mem _ (List.mem_append_left _ (List.mem_append_right _ h))) (by decide +kernel))
set_option maxRecDepth 20000 in
theorem gL_refused_L_bestCards : GoodIn wsL_refused (va_wsS RL 120 yL_bestCards wsL_bestCards) := goodIn_app (goodIn_of _ (by decide +kernel)) ggL_refused_L_bestCards
set_option maxRecDepth 20000 in
theorem ggL_refused_L_append : GoodIn wsL_refused wsL_append := goodIn_ca (goodIn_ca (goodIn_r _ [341, 14, 117, 1, 4, 342, 343, 344, 18, 345, 20, 21, 122, 123, 346, 347, 348, 349, 350, 351, 352, 353, 354, 355, 356, 357, 358, 359, 360, 385, 386, 387, 388, 389, 390, 391] (by decide +kernel) (by decide +kernel)) (goodIn_sub (fun _ h => List.mem_cons_of_mem _ (List.mem_append_left _ (List.mem_append_left _ (List.mem_append_right _ h)))) (by decide +kernel))) (goodIn_sub (fun _ h => List.mem_cons_of_mem _ (List.mem_append_right _ h)) (by decide +kernel))
set_option maxRecDepth 20000 in
theorem gL_refused_L_append : GoodIn wsL_refused (va_wsS RL 122 yL_append wsL_append) := goodIn_app (goodIn_of _ (by decide +kernel)) ggL_refused_L_append
theorem dL_refused_0 : decode cL_refused 0 = .ok (.aload_n 0, 1) := by decide +kernel
theorem dL_refused_1 : decode cL_refused 1 = .ok (.invokestatic 95, 3) := by decide +kernel
theorem dL_refused_4 : decode cL_refused 4 = .ok (.lstore_n 1, 1) := by decide +kernel
theorem dL_refused_5 : decode cL_refused 5 = .ok (.aload_n 0, 1) := by decide +kernel
theorem dL_refused_6 : decode cL_refused 6 = .ok (.iconst 0, 1) := by decide +kernel
theorem dL_refused_7 : decode cL_refused 7 = .ok (.invokestatic 85, 3) := by decide +kernel
theorem dL_refused_10 : decode cL_refused 10 = .ok (.istore_n 3, 1) := by decide +kernel
theorem dL_refused_11 : decode cL_refused 11 = .ok (.aload_n 0, 1) := by decide +kernel
theorem dL_refused_12 : decode cL_refused 12 = .ok (.iconst 1, 1) := by decide +kernel
theorem dL_refused_13 : decode cL_refused 13 = .ok (.invokestatic 85, 3) := by decide +kernel
theorem dL_refused_16 : decode cL_refused 16 = .ok (.iconst 1, 1) := by decide +kernel
theorem dL_refused_17 : decode cL_refused 17 = .ok (.if_icmp .ne 7, 3) := by decide +kernel
theorem dL_refused_20 : decode cL_refused 20 = .ok (.iconst 1, 1) := by decide +kernel
theorem dL_refused_21 : decode cL_refused 21 = .ok (.goto 4, 3) := by decide +kernel
theorem dL_refused_24 : decode cL_refused 24 = .ok (.iconst 0, 1) := by decide +kernel
theorem dL_refused_25 : decode cL_refused 25 = .ok (.istore 4, 2) := by decide +kernel
theorem dL_refused_27 : decode cL_refused 27 = .ok (.aload_n 0, 1) := by decide +kernel
theorem dL_refused_28 : decode cL_refused 28 = .ok (.iconst 2, 1) := by decide +kernel
theorem dL_refused_29 : decode cL_refused 29 = .ok (.iconst 0, 1) := by decide +kernel
theorem dL_refused_30 : decode cL_refused 30 = .ok (.invokestatic 99, 3) := by decide +kernel
theorem dL_refused_33 : decode cL_refused 33 = .ok (.ldc 17, 2) := by decide +kernel
theorem dL_refused_35 : decode cL_refused 35 = .ok (.if_icmp .ne 178, 3) := by decide +kernel
theorem dL_refused_38 : decode cL_refused 38 = .ok (.aload_n 0, 1) := by decide +kernel
theorem dL_refused_39 : decode cL_refused 39 = .ok (.iconst 3, 1) := by decide +kernel
theorem dL_refused_40 : decode cL_refused 40 = .ok (.ldc 101, 2) := by decide +kernel
theorem dL_refused_42 : decode cL_refused 42 = .ok (.invokestatic 99, 3) := by decide +kernel
theorem dL_refused_45 : decode cL_refused 45 = .ok (.ldc 17, 2) := by decide +kernel
theorem dL_refused_47 : decode cL_refused 47 = .ok (.if_icmp .ne 166, 3) := by decide +kernel
theorem dL_refused_50 : decode cL_refused 50 = .ok (.aload_n 0, 1) := by decide +kernel
theorem dL_refused_51 : decode cL_refused 51 = .ok (.iconst 4, 1) := by decide +kernel
theorem dL_refused_52 : decode cL_refused 52 = .ok (.bipush (-2), 2) := by decide +kernel
theorem dL_refused_54 : decode cL_refused 54 = .ok (.invokestatic 99, 3) := by decide +kernel
theorem dL_refused_57 : decode cL_refused 57 = .ok (.ldc 17, 2) := by decide +kernel
theorem dL_refused_59 : decode cL_refused 59 = .ok (.if_icmp .ne 154, 3) := by decide +kernel
theorem dL_refused_62 : decode cL_refused 62 = .ok (.aload_n 0, 1) := by decide +kernel
theorem dL_refused_63 : decode cL_refused 63 = .ok (.iload_n 3, 1) := by decide +kernel
theorem dL_refused_64 : decode cL_refused 64 = .ok (.iconst 1, 1) := by decide +kernel
theorem dL_refused_65 : decode cL_refused 65 = .ok (.iconst 0, 1) := by decide +kernel
theorem dL_refused_66 : decode cL_refused 66 = .ok (.invokestatic 102, 3) := by decide +kernel
theorem dL_refused_69 : decode cL_refused 69 = .ok (.ldc 27, 2) := by decide +kernel
theorem dL_refused_71 : decode cL_refused 71 = .ok (.if_icmp .ne 142, 3) := by decide +kernel
theorem dL_refused_74 : decode cL_refused 74 = .ok (.aload_n 0, 1) := by decide +kernel
theorem dL_refused_75 : decode cL_refused 75 = .ok (.iload_n 3, 1) := by decide +kernel
theorem dL_refused_76 : decode cL_refused 76 = .ok (.iconst 0, 1) := by decide +kernel
theorem dL_refused_77 : decode cL_refused 77 = .ok (.invokestatic 105, 3) := by decide +kernel
theorem dL_refused_80 : decode cL_refused 80 = .ok (.ldc 27, 2) := by decide +kernel
theorem dL_refused_82 : decode cL_refused 82 = .ok (.if_icmp .ne 131, 3) := by decide +kernel
theorem dL_refused_85 : decode cL_refused 85 = .ok (.aload_n 0, 1) := by decide +kernel
theorem dL_refused_86 : decode cL_refused 86 = .ok (.iconst (-1), 1) := by decide +kernel
theorem dL_refused_87 : decode cL_refused 87 = .ok (.invokestatic 107, 3) := by decide +kernel
theorem dL_refused_90 : decode cL_refused 90 = .ok (.ldc 27, 2) := by decide +kernel
theorem dL_refused_92 : decode cL_refused 92 = .ok (.if_icmp .ne 121, 3) := by decide +kernel
theorem dL_refused_95 : decode cL_refused 95 = .ok (.aload_n 0, 1) := by decide +kernel
theorem dL_refused_96 : decode cL_refused 96 = .ok (.bipush 8, 2) := by decide +kernel
theorem dL_refused_98 : decode cL_refused 98 = .ok (.invokestatic 109, 3) := by decide +kernel
theorem dL_refused_101 : decode cL_refused 101 = .ok (.ldc 27, 2) := by decide +kernel
theorem dL_refused_103 : decode cL_refused 103 = .ok (.if_icmp .ne 110, 3) := by decide +kernel
theorem dL_refused_106 : decode cL_refused 106 = .ok (.aload_n 0, 1) := by decide +kernel
theorem dL_refused_107 : decode cL_refused 107 = .ok (.iload_n 3, 1) := by decide +kernel
theorem dL_refused_108 : decode cL_refused 108 = .ok (.iconst 0, 1) := by decide +kernel
theorem dL_refused_109 : decode cL_refused 109 = .ok (.invokestatic 90, 3) := by decide +kernel
theorem dL_refused_112 : decode cL_refused 112 = .ok (.ldc 27, 2) := by decide +kernel
theorem dL_refused_114 : decode cL_refused 114 = .ok (.if_icmp .ne 99, 3) := by decide +kernel
theorem dL_refused_117 : decode cL_refused 117 = .ok (.aload_n 0, 1) := by decide +kernel
theorem dL_refused_118 : decode cL_refused 118 = .ok (.bipush 10, 2) := by decide +kernel
theorem dL_refused_120 : decode cL_refused 120 = .ok (.invokestatic 85, 3) := by decide +kernel
theorem dL_refused_123 : decode cL_refused 123 = .ok (.ldc 17, 2) := by decide +kernel
theorem dL_refused_125 : decode cL_refused 125 = .ok (.if_icmp .ne 88, 3) := by decide +kernel
theorem dL_refused_128 : decode cL_refused 128 = .ok (.aload_n 0, 1) := by decide +kernel
theorem dL_refused_129 : decode cL_refused 129 = .ok (.aload_n 0, 1) := by decide +kernel
theorem dL_refused_130 : decode cL_refused 130 = .ok (.iconst 2, 1) := by decide +kernel
theorem dL_refused_131 : decode cL_refused 131 = .ok (.invokestatic 85, 3) := by decide +kernel
theorem dL_refused_134 : decode cL_refused 134 = .ok (.iconst 0, 1) := by decide +kernel
theorem dL_refused_135 : decode cL_refused 135 = .ok (.invokestatic 93, 3) := by decide +kernel
theorem dL_refused_138 : decode cL_refused 138 = .ok (.ldc 27, 2) := by decide +kernel
theorem dL_refused_140 : decode cL_refused 140 = .ok (.if_icmp .ne 73, 3) := by decide +kernel
theorem dL_refused_143 : decode cL_refused 143 = .ok (.aload_n 0, 1) := by decide +kernel
theorem dL_refused_144 : decode cL_refused 144 = .ok (.iconst (-1), 1) := by decide +kernel
theorem dL_refused_145 : decode cL_refused 145 = .ok (.invokestatic 111, 3) := by decide +kernel
theorem dL_refused_148 : decode cL_refused 148 = .ok (.ldc 27, 2) := by decide +kernel
theorem dL_refused_150 : decode cL_refused 150 = .ok (.if_icmp .ne 63, 3) := by decide +kernel
theorem dL_refused_153 : decode cL_refused 153 = .ok (.aload_n 0, 1) := by decide +kernel
theorem dL_refused_154 : decode cL_refused 154 = .ok (.iload_n 3, 1) := by decide +kernel
theorem dL_refused_155 : decode cL_refused 155 = .ok (.iconst 0, 1) := by decide +kernel
theorem dL_refused_156 : decode cL_refused 156 = .ok (.invokestatic 113, 3) := by decide +kernel
theorem dL_refused_159 : decode cL_refused 159 = .ok (.ldc 27, 2) := by decide +kernel
theorem dL_refused_161 : decode cL_refused 161 = .ok (.if_icmp .ne 52, 3) := by decide +kernel
theorem dL_refused_164 : decode cL_refused 164 = .ok (.aload_n 0, 1) := by decide +kernel
theorem dL_refused_165 : decode cL_refused 165 = .ok (.iload_n 3, 1) := by decide +kernel
theorem dL_refused_166 : decode cL_refused 166 = .ok (.iconst 1, 1) := by decide +kernel
theorem dL_refused_167 : decode cL_refused 167 = .ok (.iconst 0, 1) := by decide +kernel
theorem dL_refused_168 : decode cL_refused 168 = .ok (.invokestatic 115, 3) := by decide +kernel
theorem dL_refused_171 : decode cL_refused 171 = .ok (.ldc 27, 2) := by decide +kernel
theorem dL_refused_173 : decode cL_refused 173 = .ok (.if_icmp .ne 40, 3) := by decide +kernel
theorem dL_refused_176 : decode cL_refused 176 = .ok (.aload_n 0, 1) := by decide +kernel
theorem dL_refused_177 : decode cL_refused 177 = .ok (.iconst (-1), 1) := by decide +kernel
theorem dL_refused_178 : decode cL_refused 178 = .ok (.iconst 1, 1) := by decide +kernel
theorem dL_refused_179 : decode cL_refused 179 = .ok (.invokestatic 118, 3) := by decide +kernel
theorem dL_refused_182 : decode cL_refused 182 = .ok (.ldc 27, 2) := by decide +kernel
theorem dL_refused_184 : decode cL_refused 184 = .ok (.if_icmp .ne 29, 3) := by decide +kernel
theorem dL_refused_187 : decode cL_refused 187 = .ok (.aload_n 0, 1) := by decide +kernel
theorem dL_refused_188 : decode cL_refused 188 = .ok (.iload_n 3, 1) := by decide +kernel
theorem dL_refused_189 : decode cL_refused 189 = .ok (.invokestatic 120, 3) := by decide +kernel
theorem dL_refused_192 : decode cL_refused 192 = .ok (.ldc 27, 2) := by decide +kernel
theorem dL_refused_194 : decode cL_refused 194 = .ok (.if_icmp .ne 19, 3) := by decide +kernel
theorem dL_refused_197 : decode cL_refused 197 = .ok (.aload_n 0, 1) := by decide +kernel
theorem dL_refused_198 : decode cL_refused 198 = .ok (.sipush 128, 3) := by decide +kernel
theorem dL_refused_201 : decode cL_refused 201 = .ok (.invokestatic 122, 3) := by decide +kernel
theorem dL_refused_204 : decode cL_refused 204 = .ok (.ldc 17, 2) := by decide +kernel
theorem dL_refused_206 : decode cL_refused 206 = .ok (.if_icmp .ne 7, 3) := by decide +kernel
theorem dL_refused_209 : decode cL_refused 209 = .ok (.iconst 1, 1) := by decide +kernel
theorem dL_refused_210 : decode cL_refused 210 = .ok (.goto 4, 3) := by decide +kernel
theorem dL_refused_213 : decode cL_refused 213 = .ok (.iconst 0, 1) := by decide +kernel
theorem dL_refused_214 : decode cL_refused 214 = .ok (.istore 5, 2) := by decide +kernel
theorem dL_refused_216 : decode cL_refused 216 = .ok (.iconst 0, 1) := by decide +kernel
theorem dL_refused_217 : decode cL_refused 217 = .ok (.istore 6, 2) := by decide +kernel
theorem dL_refused_219 : decode cL_refused 219 = .ok (.iload 6, 2) := by decide +kernel
theorem dL_refused_221 : decode cL_refused 221 = .ok (.iload_n 3, 1) := by decide +kernel
theorem dL_refused_222 : decode cL_refused 222 = .ok (.if_icmp .ge 126, 3) := by decide +kernel
theorem dL_refused_225 : decode cL_refused 225 = .ok (.iload 5, 2) := by decide +kernel
theorem dL_refused_227 : decode cL_refused 227 = .ok (.ifCond .eq 121, 3) := by decide +kernel
theorem dL_refused_230 : decode cL_refused 230 = .ok (.iload 4, 2) := by decide +kernel
theorem dL_refused_232 : decode cL_refused 232 = .ok (.ifCond .eq 18, 3) := by decide +kernel
theorem dL_refused_235 : decode cL_refused 235 = .ok (.aload_n 0, 1) := by decide +kernel
theorem dL_refused_236 : decode cL_refused 236 = .ok (.iload 6, 2) := by decide +kernel
theorem dL_refused_238 : decode cL_refused 238 = .ok (.iconst 1, 1) := by decide +kernel
theorem dL_refused_239 : decode cL_refused 239 = .ok (.invokestatic 90, 3) := by decide +kernel
theorem dL_refused_242 : decode cL_refused 242 = .ok (.iconst 1, 1) := by decide +kernel
theorem dL_refused_243 : decode cL_refused 243 = .ok (.if_icmp .ne 7, 3) := by decide +kernel
theorem dL_refused_246 : decode cL_refused 246 = .ok (.iconst 1, 1) := by decide +kernel
theorem dL_refused_247 : decode cL_refused 247 = .ok (.goto 4, 3) := by decide +kernel
theorem dL_refused_250 : decode cL_refused 250 = .ok (.iconst 0, 1) := by decide +kernel
theorem dL_refused_251 : decode cL_refused 251 = .ok (.istore 7, 2) := by decide +kernel
theorem dL_refused_253 : decode cL_refused 253 = .ok (.aload_n 0, 1) := by decide +kernel
theorem dL_refused_254 : decode cL_refused 254 = .ok (.iload 6, 2) := by decide +kernel
theorem dL_refused_256 : decode cL_refused 256 = .ok (.iconst 0, 1) := by decide +kernel
theorem dL_refused_257 : decode cL_refused 257 = .ok (.iconst 0, 1) := by decide +kernel
theorem dL_refused_258 : decode cL_refused 258 = .ok (.invokestatic 102, 3) := by decide +kernel
theorem dL_refused_261 : decode cL_refused 261 = .ok (.ldc 17, 2) := by decide +kernel
theorem dL_refused_263 : decode cL_refused 263 = .ok (.if_icmp .ne 76, 3) := by decide +kernel
theorem dL_refused_266 : decode cL_refused 266 = .ok (.aload_n 0, 1) := by decide +kernel
theorem dL_refused_267 : decode cL_refused 267 = .ok (.iload 6, 2) := by decide +kernel
theorem dL_refused_269 : decode cL_refused 269 = .ok (.sipush 256, 3) := by decide +kernel
theorem dL_refused_272 : decode cL_refused 272 = .ok (.iconst 1, 1) := by decide +kernel
theorem dL_refused_273 : decode cL_refused 273 = .ok (.invokestatic 102, 3) := by decide +kernel
theorem dL_refused_276 : decode cL_refused 276 = .ok (.ldc 17, 2) := by decide +kernel
theorem dL_refused_278 : decode cL_refused 278 = .ok (.if_icmp .ne 61, 3) := by decide +kernel
theorem dL_refused_281 : decode cL_refused 281 = .ok (.aload_n 0, 1) := by decide +kernel
theorem dL_refused_282 : decode cL_refused 282 = .ok (.iload 6, 2) := by decide +kernel
theorem dL_refused_284 : decode cL_refused 284 = .ok (.bipush 8, 2) := by decide +kernel
theorem dL_refused_286 : decode cL_refused 286 = .ok (.invokestatic 105, 3) := by decide +kernel
theorem dL_refused_289 : decode cL_refused 289 = .ok (.ldc 27, 2) := by decide +kernel
theorem dL_refused_291 : decode cL_refused 291 = .ok (.if_icmp .ne 48, 3) := by decide +kernel
theorem dL_refused_294 : decode cL_refused 294 = .ok (.iload 7, 2) := by decide +kernel
theorem dL_refused_296 : decode cL_refused 296 = .ok (.ifCond .ne 39, 3) := by decide +kernel
theorem dL_refused_299 : decode cL_refused 299 = .ok (.aload_n 0, 1) := by decide +kernel
theorem dL_refused_300 : decode cL_refused 300 = .ok (.iload 6, 2) := by decide +kernel
theorem dL_refused_302 : decode cL_refused 302 = .ok (.iconst 1, 1) := by decide +kernel
theorem dL_refused_303 : decode cL_refused 303 = .ok (.iconst 0, 1) := by decide +kernel
theorem dL_refused_304 : decode cL_refused 304 = .ok (.invokestatic 102, 3) := by decide +kernel
theorem dL_refused_307 : decode cL_refused 307 = .ok (.ldc 20, 2) := by decide +kernel
theorem dL_refused_309 : decode cL_refused 309 = .ok (.if_icmp .ne 30, 3) := by decide +kernel
theorem dL_refused_312 : decode cL_refused 312 = .ok (.aload_n 0, 1) := by decide +kernel
theorem dL_refused_313 : decode cL_refused 313 = .ok (.iload 6, 2) := by decide +kernel
theorem dL_refused_315 : decode cL_refused 315 = .ok (.iconst 0, 1) := by decide +kernel
theorem dL_refused_316 : decode cL_refused 316 = .ok (.invokestatic 105, 3) := by decide +kernel
theorem dL_refused_319 : decode cL_refused 319 = .ok (.ldc 20, 2) := by decide +kernel
theorem dL_refused_321 : decode cL_refused 321 = .ok (.if_icmp .ne 18, 3) := by decide +kernel
theorem dL_refused_324 : decode cL_refused 324 = .ok (.aload_n 0, 1) := by decide +kernel
theorem dL_refused_325 : decode cL_refused 325 = .ok (.iload 6, 2) := by decide +kernel
theorem dL_refused_327 : decode cL_refused 327 = .ok (.invokestatic 107, 3) := by decide +kernel
theorem dL_refused_330 : decode cL_refused 330 = .ok (.ldc 20, 2) := by decide +kernel
theorem dL_refused_332 : decode cL_refused 332 = .ok (.if_icmp .ne 7, 3) := by decide +kernel
theorem dL_refused_335 : decode cL_refused 335 = .ok (.iconst 1, 1) := by decide +kernel
theorem dL_refused_336 : decode cL_refused 336 = .ok (.goto 4, 3) := by decide +kernel
theorem dL_refused_339 : decode cL_refused 339 = .ok (.iconst 0, 1) := by decide +kernel
theorem dL_refused_340 : decode cL_refused 340 = .ok (.istore 5, 2) := by decide +kernel
theorem dL_refused_342 : decode cL_refused 342 = .ok (.iinc 6 1, 3) := by decide +kernel
theorem dL_refused_345 : decode cL_refused 345 = .ok (.goto (-126), 3) := by decide +kernel
theorem dL_refused_348 : decode cL_refused 348 = .ok (.iload 5, 2) := by decide +kernel
theorem dL_refused_350 : decode cL_refused 350 = .ok (.ifCond .eq 45, 3) := by decide +kernel
theorem dL_refused_353 : decode cL_refused 353 = .ok (.iload 4, 2) := by decide +kernel
theorem dL_refused_355 : decode cL_refused 355 = .ok (.ifCond .eq 17, 3) := by decide +kernel
theorem dL_refused_358 : decode cL_refused 358 = .ok (.aload_n 0, 1) := by decide +kernel
theorem dL_refused_359 : decode cL_refused 359 = .ok (.iconst 3, 1) := by decide +kernel
theorem dL_refused_360 : decode cL_refused 360 = .ok (.iconst 0, 1) := by decide +kernel
theorem dL_refused_361 : decode cL_refused 361 = .ok (.invokestatic 99, 3) := by decide +kernel
theorem dL_refused_364 : decode cL_refused 364 = .ok (.ldc 20, 2) := by decide +kernel
theorem dL_refused_366 : decode cL_refused 366 = .ok (.if_icmp .ne 29, 3) := by decide +kernel
theorem dL_refused_369 : decode cL_refused 369 = .ok (.goto 13, 3) := by decide +kernel
theorem dL_refused_372 : decode cL_refused 372 = .ok (.aload_n 0, 1) := by decide +kernel
theorem dL_refused_373 : decode cL_refused 373 = .ok (.iconst 0, 1) := by decide +kernel
theorem dL_refused_374 : decode cL_refused 374 = .ok (.invokestatic 109, 3) := by decide +kernel
theorem dL_refused_377 : decode cL_refused 377 = .ok (.ldc 20, 2) := by decide +kernel
theorem dL_refused_379 : decode cL_refused 379 = .ok (.if_icmp .ne 16, 3) := by decide +kernel
theorem dL_refused_382 : decode cL_refused 382 = .ok (.aload_n 0, 1) := by decide +kernel
theorem dL_refused_383 : decode cL_refused 383 = .ok (.invokestatic 95, 3) := by decide +kernel
theorem dL_refused_386 : decode cL_refused 386 = .ok (.lload_n 1, 1) := by decide +kernel
theorem dL_refused_387 : decode cL_refused 387 = .ok (.lcmp, 1) := by decide +kernel
theorem dL_refused_388 : decode cL_refused 388 = .ok (.ifCond .ne 7, 3) := by decide +kernel
theorem dL_refused_391 : decode cL_refused 391 = .ok (.iconst 1, 1) := by decide +kernel
theorem dL_refused_392 : decode cL_refused 392 = .ok (.goto 4, 3) := by decide +kernel
theorem dL_refused_395 : decode cL_refused 395 = .ok (.iconst 0, 1) := by decide +kernel
theorem dL_refused_396 : decode cL_refused 396 = .ok (.ireturn, 1) := by decide +kernel
set_option maxRecDepth 20000 in
theorem ggL_areDeals_L_value : GoodIn wsL_areDeals wsL_value := goodIn_ca (goodIn_r _ [4, 5, 6, 7, 8, 9, 10, 11, 12, 13, 14, 15, 16, 17, 18, 19, 20, 21, 22, 23, 24, 25, 26, 27, 28, 29, 30, 31, 32, 33, 34, 35, 36, 151, 152, 153, 154, 155, 156, 157, 158, 159, 160, 161, 162, 163, 164, 165, 166, 167, 168, 169, 170, 171, 172, 173, 174] (by decide +kernel) (by decide +kernel)) (goodIn_sub (fun _ h => List.mem_cons_of_mem _ (List.mem_append_left _ (List.mem_append_right _ h))) (by decide +kernel))
set_option maxRecDepth 20000 in
theorem gL_areDeals_L_value : GoodIn wsL_areDeals (va_wsS RL 85 yL_value wsL_value) := goodIn_app (goodIn_of _ (by decide +kernel)) ggL_areDeals_L_value
