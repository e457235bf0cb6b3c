set_option maxRecDepth 20000 in
theorem ggL_areDeals_L_guest_r2 : GoodIn wsL_areDeals wsL_guest_r2 := goodIn_r _ [28, 122, 123, 21, 124, 125, 126, 127, 128, 129, 130, 131, 22, 132, 133, 134, 135, 58, 136, 68, 137, 104, 105, 106] (by decide +kernel) (by decide +kernel)
set_option maxRecDepth 20000 in
theorem ggL_areDeals_L_guest_r3 : GoodIn wsL_areDeals wsL_guest_r3 := goodIn_r _ [138, 100, 101, 102, 103, 139, 140, 141, 142, 143, 144, 145, 146, 147, 148, 149, 150] (by decide +kernel) (by decide +kernel)
set_option maxRecDepth 20000 in
theorem ggL_areDeals_L_guest_x4 : GoodIn wsL_areDeals wsX40 := goodIn_r _ [151, 152, 153, 154, 155, 156, 157] (by decide +kernel) (by decide +kernel)
set_option maxRecDepth 20000 in
theorem ggL_areDeals_L_guest_x1 : GoodIn wsL_areDeals wsX10 := goodIn_r _ [158, 159, 160, 161, 162, 163, 164, 165, 166, 167, 168, 169, 170, 171, 172, 173, 174] (by decide +kernel) (by decide +kernel)
set_option maxRecDepth 20000 in
theorem ggL_areDeals_L_guest_x0 : GoodIn wsL_areDeals wsX00 := goodIn_r _ [175, 176, 177, 178] (by decide +kernel) (by decide +kernel)
set_option maxRecDepth 20000 in
theorem ggL_areDeals_L_guest : GoodIn wsL_areDeals wsL_guest := goodIn_ca (goodIn_ca (goodIn_cc ggL_areDeals_L_guest_h (goodIn_app (goodIn_app (goodIn_app (goodIn_app ggL_areDeals_L_guest_r1 (goodIn_app ggL_areDeals_L_guest_r2 (ggL_areDeals_L_guest_r3))) ggL_areDeals_L_guest_x4) ggL_areDeals_L_guest_x1) ggL_areDeals_L_guest_x0)) (goodIn_sub (fun _ h => List.mem_cons_of_mem _ (List.mem_append_right _ h)) (by decide +kernel))) (goodIn_sub (fun _ h => List.mem_cons_of_mem _ (List.mem_append_left _ (List.mem_append_right _ h))) (by decide +kernel))
set_option maxRecDepth 20000 in
theorem gL_areDeals_L_guest : GoodIn wsL_areDeals (va_wsS RL 90 yL_guest wsL_guest) := goodIn_app (goodIn_of _ (by decide +kernel)) ggL_areDeals_L_guest
theorem dL_areDeals_0 : decode cL_areDeals 0 = .ok (.aload_n 0, 1) := by decide +kernel
theorem dL_areDeals_1 : decode cL_areDeals 1 = .ok (.iconst 0, 1) := by decide +kernel
theorem dL_areDeals_2 : decode cL_areDeals 2 = .ok (.invokestatic 85, 3) := by decide +kernel
theorem dL_areDeals_5 : decode cL_areDeals 5 = .ok (.istore_n 1, 1) := by decide +kernel
theorem dL_areDeals_6 : decode cL_areDeals 6 = .ok (.aload_n 0, 1) := by decide +kernel
theorem dL_areDeals_7 : decode cL_areDeals 7 = .ok (.invokevirtual 124, 3) := by decide +kernel
theorem dL_areDeals_10 : decode cL_areDeals 10 = .ok (.istore_n 2, 1) := by decide +kernel
theorem dL_areDeals_11 : decode cL_areDeals 11 = .ok (.iconst 0, 1) := by decide +kernel
theorem dL_areDeals_12 : decode cL_areDeals 12 = .ok (.istore_n 3, 1) := by decide +kernel
theorem dL_areDeals_13 : decode cL_areDeals 13 = .ok (.iconst 0, 1) := by decide +kernel
theorem dL_areDeals_14 : decode cL_areDeals 14 = .ok (.istore 4, 2) := by decide +kernel
theorem dL_areDeals_16 : decode cL_areDeals 16 = .ok (.iconst 0, 1) := by decide +kernel
theorem dL_areDeals_17 : decode cL_areDeals 17 = .ok (.istore 5, 2) := by decide +kernel
theorem dL_areDeals_19 : decode cL_areDeals 19 = .ok (.iload_n 1, 1) := by decide +kernel
theorem dL_areDeals_20 : decode cL_areDeals 20 = .ok (.ifCond .ne 15, 3) := by decide +kernel
theorem dL_areDeals_23 : decode cL_areDeals 23 = .ok (.iload_n 2, 1) := by decide +kernel
theorem dL_areDeals_24 : decode cL_areDeals 24 = .ok (.ifCond .ne 7, 3) := by decide +kernel
theorem dL_areDeals_27 : decode cL_areDeals 27 = .ok (.iconst 1, 1) := by decide +kernel
theorem dL_areDeals_28 : decode cL_areDeals 28 = .ok (.goto 34, 3) := by decide +kernel
theorem dL_areDeals_31 : decode cL_areDeals 31 = .ok (.iconst 0, 1) := by decide +kernel
theorem dL_areDeals_32 : decode cL_areDeals 32 = .ok (.goto 30, 3) := by decide +kernel
theorem dL_areDeals_35 : decode cL_areDeals 35 = .ok (.iload_n 2, 1) := by decide +kernel
theorem dL_areDeals_36 : decode cL_areDeals 36 = .ok (.ifCond .le 25, 3) := by decide +kernel
theorem dL_areDeals_39 : decode cL_areDeals 39 = .ok (.iload_n 2, 1) := by decide +kernel
theorem dL_areDeals_40 : decode cL_areDeals 40 = .ok (.iload_n 1, 1) := by decide +kernel
theorem dL_areDeals_41 : decode cL_areDeals 41 = .ok (.iconst 3, 1) := by decide +kernel
theorem dL_areDeals_42 : decode cL_areDeals 42 = .ok (.if_icmp .ne 9, 3) := by decide +kernel
theorem dL_areDeals_45 : decode cL_areDeals 45 = .ok (.sipush 1680, 3) := by decide +kernel
theorem dL_areDeals_48 : decode cL_areDeals 48 = .ok (.goto 6, 3) := by decide +kernel
theorem dL_areDeals_51 : decode cL_areDeals 51 = .ok (.sipush 5040, 3) := by decide +kernel
theorem dL_areDeals_54 : decode cL_areDeals 54 = .ok (.if_icmp .gt 7, 3) := by decide +kernel
theorem dL_areDeals_57 : decode cL_areDeals 57 = .ok (.iconst 1, 1) := by decide +kernel
theorem dL_areDeals_58 : decode cL_areDeals 58 = .ok (.goto 4, 3) := by decide +kernel
theorem dL_areDeals_61 : decode cL_areDeals 61 = .ok (.iconst 0, 1) := by decide +kernel
theorem dL_areDeals_62 : decode cL_areDeals 62 = .ok (.istore 6, 2) := by decide +kernel
theorem dL_areDeals_64 : decode cL_areDeals 64 = .ok (.iconst 0, 1) := by decide +kernel
theorem dL_areDeals_65 : decode cL_areDeals 65 = .ok (.istore 7, 2) := by decide +kernel
theorem dL_areDeals_67 : decode cL_areDeals 67 = .ok (.iload 7, 2) := by decide +kernel
theorem dL_areDeals_69 : decode cL_areDeals 69 = .ok (.bipush 8, 2) := by decide +kernel
theorem dL_areDeals_71 : decode cL_areDeals 71 = .ok (.if_icmp .ge 134, 3) := by decide +kernel
theorem dL_areDeals_74 : decode cL_areDeals 74 = .ok (.iload 6, 2) := by decide +kernel
theorem dL_areDeals_76 : decode cL_areDeals 76 = .ok (.ifCond .eq 129, 3) := by decide +kernel
theorem dL_areDeals_79 : decode cL_areDeals 79 = .ok (.aload_n 0, 1) := by decide +kernel
theorem dL_areDeals_80 : decode cL_areDeals 80 = .ok (.iload 7, 2) := by decide +kernel
theorem dL_areDeals_82 : decode cL_areDeals 82 = .ok (.invokestatic 111, 3) := by decide +kernel
theorem dL_areDeals_85 : decode cL_areDeals 85 = .ok (.istore 8, 2) := by decide +kernel
theorem dL_areDeals_87 : decode cL_areDeals 87 = .ok (.iload 8, 2) := by decide +kernel
theorem dL_areDeals_89 : decode cL_areDeals 89 = .ok (.istore 9, 2) := by decide +kernel
theorem dL_areDeals_91 : decode cL_areDeals 91 = .ok (.iload_n 3, 1) := by decide +kernel
theorem dL_areDeals_92 : decode cL_areDeals 92 = .ok (.iload 8, 2) := by decide +kernel
theorem dL_areDeals_94 : decode cL_areDeals 94 = .ok (.iadd, 1) := by decide +kernel
theorem dL_areDeals_95 : decode cL_areDeals 95 = .ok (.istore_n 3, 1) := by decide +kernel
theorem dL_areDeals_96 : decode cL_areDeals 96 = .ok (.iload 4, 2) := by decide +kernel
theorem dL_areDeals_98 : decode cL_areDeals 98 = .ok (.iload 8, 2) := by decide +kernel
theorem dL_areDeals_100 : decode cL_areDeals 100 = .ok (.ifCond .le 10, 3) := by decide +kernel
theorem dL_areDeals_103 : decode cL_areDeals 103 = .ok (.iconst 1, 1) := by decide +kernel
theorem dL_areDeals_104 : decode cL_areDeals 104 = .ok (.iload 7, 2) := by decide +kernel
theorem dL_areDeals_106 : decode cL_areDeals 106 = .ok (.ishl, 1) := by decide +kernel
theorem dL_areDeals_107 : decode cL_areDeals 107 = .ok (.goto 4, 3) := by decide +kernel
theorem dL_areDeals_110 : decode cL_areDeals 110 = .ok (.iconst 0, 1) := by decide +kernel
theorem dL_areDeals_111 : decode cL_areDeals 111 = .ok (.ior, 1) := by decide +kernel
theorem dL_areDeals_112 : decode cL_areDeals 112 = .ok (.istore 4, 2) := by decide +kernel
theorem dL_areDeals_114 : decode cL_areDeals 114 = .ok (.iload 8, 2) := by decide +kernel
theorem dL_areDeals_116 : decode cL_areDeals 116 = .ok (.aload_n 0, 1) := by decide +kernel
theorem dL_areDeals_117 : decode cL_areDeals 117 = .ok (.iload 5, 2) := by decide +kernel
theorem dL_areDeals_119 : decode cL_areDeals 119 = .ok (.invokestatic 111, 3) := by decide +kernel
theorem dL_areDeals_122 : decode cL_areDeals 122 = .ok (.if_icmp .le 8, 3) := by decide +kernel
theorem dL_areDeals_125 : decode cL_areDeals 125 = .ok (.iload 7, 2) := by decide +kernel
theorem dL_areDeals_127 : decode cL_areDeals 127 = .ok (.goto 5, 3) := by decide +kernel
theorem dL_areDeals_130 : decode cL_areDeals 130 = .ok (.iload 5, 2) := by decide +kernel
theorem dL_areDeals_132 : decode cL_areDeals 132 = .ok (.istore 5, 2) := by decide +kernel
theorem dL_areDeals_134 : decode cL_areDeals 134 = .ok (.iconst 0, 1) := by decide +kernel
theorem dL_areDeals_135 : decode cL_areDeals 135 = .ok (.istore 10, 2) := by decide +kernel
theorem dL_areDeals_137 : decode cL_areDeals 137 = .ok (.iload 10, 2) := by decide +kernel
theorem dL_areDeals_139 : decode cL_areDeals 139 = .ok (.iload_n 1, 1) := by decide +kernel
theorem dL_areDeals_140 : decode cL_areDeals 140 = .ok (.if_icmp .ge 22, 3) := by decide +kernel
theorem dL_areDeals_143 : decode cL_areDeals 143 = .ok (.iload 9, 2) := by decide +kernel
theorem dL_areDeals_145 : decode cL_areDeals 145 = .ok (.aload_n 0, 1) := by decide +kernel
theorem dL_areDeals_146 : decode cL_areDeals 146 = .ok (.iload 10, 2) := by decide +kernel
theorem dL_areDeals_148 : decode cL_areDeals 148 = .ok (.iload 7, 2) := by decide +kernel
theorem dL_areDeals_150 : decode cL_areDeals 150 = .ok (.invokestatic 113, 3) := by decide +kernel
theorem dL_areDeals_153 : decode cL_areDeals 153 = .ok (.iadd, 1) := by decide +kernel
theorem dL_areDeals_154 : decode cL_areDeals 154 = .ok (.istore 9, 2) := by decide +kernel
theorem dL_areDeals_156 : decode cL_areDeals 156 = .ok (.iinc 10 1, 3) := by decide +kernel
theorem dL_areDeals_159 : decode cL_areDeals 159 = .ok (.goto (-22), 3) := by decide +kernel
theorem dL_areDeals_162 : decode cL_areDeals 162 = .ok (.iload 9, 2) := by decide +kernel
theorem dL_areDeals_164 : decode cL_areDeals 164 = .ok (.iload_n 2, 1) := by decide +kernel
theorem dL_areDeals_165 : decode cL_areDeals 165 = .ok (.if_icmp .ne 31, 3) := by decide +kernel
theorem dL_areDeals_168 : decode cL_areDeals 168 = .ok (.aload_n 0, 1) := by decide +kernel
theorem dL_areDeals_169 : decode cL_areDeals 169 = .ok (.iload 7, 2) := by decide +kernel
theorem dL_areDeals_171 : decode cL_areDeals 171 = .ok (.invokestatic 127, 3) := by decide +kernel
theorem dL_areDeals_174 : decode cL_areDeals 174 = .ok (.iload_n 2, 1) := by decide +kernel
theorem dL_areDeals_175 : decode cL_areDeals 175 = .ok (.ifCond .ne 7, 3) := by decide +kernel
theorem dL_areDeals_178 : decode cL_areDeals 178 = .ok (.dconst 0, 1) := by decide +kernel
theorem dL_areDeals_179 : decode cL_areDeals 179 = .ok (.goto 9, 3) := by decide +kernel
theorem dL_areDeals_182 : decode cL_areDeals 182 = .ok (.iload 8, 2) := by decide +kernel
theorem dL_areDeals_184 : decode cL_areDeals 184 = .ok (.i2d, 1) := by decide +kernel
theorem dL_areDeals_185 : decode cL_areDeals 185 = .ok (.iload_n 2, 1) := by decide +kernel
theorem dL_areDeals_186 : decode cL_areDeals 186 = .ok (.i2d, 1) := by decide +kernel
theorem dL_areDeals_187 : decode cL_areDeals 187 = .ok (.ddiv, 1) := by decide +kernel
theorem dL_areDeals_188 : decode cL_areDeals 188 = .ok (.dcmp .l, 1) := by decide +kernel
theorem dL_areDeals_189 : decode cL_areDeals 189 = .ok (.ifCond .ne 7, 3) := by decide +kernel
theorem dL_areDeals_192 : decode cL_areDeals 192 = .ok (.iconst 1, 1) := by decide +kernel
theorem dL_areDeals_193 : decode cL_areDeals 193 = .ok (.goto 4, 3) := by decide +kernel
theorem dL_areDeals_196 : decode cL_areDeals 196 = .ok (.iconst 0, 1) := by decide +kernel
theorem dL_areDeals_197 : decode cL_areDeals 197 = .ok (.istore 6, 2) := by decide +kernel
theorem dL_areDeals_199 : decode cL_areDeals 199 = .ok (.iinc 7 1, 3) := by decide +kernel
theorem dL_areDeals_202 : decode cL_areDeals 202 = .ok (.goto (-135), 3) := by decide +kernel
theorem dL_areDeals_205 : decode cL_areDeals 205 = .ok (.iload 6, 2) := by decide +kernel
theorem dL_areDeals_207 : decode cL_areDeals 207 = .ok (.ifCond .eq 38, 3) := by decide +kernel
theorem dL_areDeals_210 : decode cL_areDeals 210 = .ok (.iload_n 3, 1) := by decide +kernel
theorem dL_areDeals_211 : decode cL_areDeals 211 = .ok (.iload_n 2, 1) := by decide +kernel
theorem dL_areDeals_212 : decode cL_areDeals 212 = .ok (.if_icmp .ne 33, 3) := by decide +kernel
theorem dL_areDeals_215 : decode cL_areDeals 215 = .ok (.aload_n 0, 1) := by decide +kernel
theorem dL_areDeals_216 : decode cL_areDeals 216 = .ok (.invokevirtual 130, 3) := by decide +kernel
theorem dL_areDeals_219 : decode cL_areDeals 219 = .ok (.iload 4, 2) := by decide +kernel
theorem dL_areDeals_221 : decode cL_areDeals 221 = .ok (.if_icmp .ne 24, 3) := by decide +kernel
theorem dL_areDeals_224 : decode cL_areDeals 224 = .ok (.aload_n 0, 1) := by decide +kernel
theorem dL_areDeals_225 : decode cL_areDeals 225 = .ok (.invokevirtual 133, 3) := by decide +kernel
theorem dL_areDeals_228 : decode cL_areDeals 228 = .ok (.iload_n 1, 1) := by decide +kernel
theorem dL_areDeals_229 : decode cL_areDeals 229 = .ok (.ifCond .ne 7, 3) := by decide +kernel
theorem dL_areDeals_232 : decode cL_areDeals 232 = .ok (.iconst (-1), 1) := by decide +kernel
theorem dL_areDeals_233 : decode cL_areDeals 233 = .ok (.goto 5, 3) := by decide +kernel
theorem dL_areDeals_236 : decode cL_areDeals 236 = .ok (.iload 5, 2) := by decide +kernel
theorem dL_areDeals_238 : decode cL_areDeals 238 = .ok (.if_icmp .ne 7, 3) := by decide +kernel
theorem dL_areDeals_241 : decode cL_areDeals 241 = .ok (.iconst 1, 1) := by decide +kernel
theorem dL_areDeals_242 : decode cL_areDeals 242 = .ok (.goto 4, 3) := by decide +kernel
theorem dL_areDeals_245 : decode cL_areDeals 245 = .ok (.iconst 0, 1) := by decide +kernel
theorem dL_areDeals_246 : decode cL_areDeals 246 = .ok (.istore 6, 2) := by decide +kernel
theorem dL_areDeals_248 : decode cL_areDeals 248 = .ok (.iconst 0, 1) := by decide +kernel
theorem dL_areDeals_249 : decode cL_areDeals 249 = .ok (.istore 7, 2) := by decide +kernel
theorem dL_areDeals_251 : decode cL_areDeals 251 = .ok (.iload 7, 2) := by decide +kernel
theorem dL_areDeals_253 : decode cL_areDeals 253 = .ok (.iload_n 1, 1) := by decide +kernel
theorem dL_areDeals_254 : decode cL_areDeals 254 = .ok (.if_icmp .ge 138, 3) := by decide +kernel
theorem dL_areDeals_257 : decode cL_areDeals 257 = .ok (.iload 6, 2) := by decide +kernel
theorem dL_areDeals_259 : decode cL_areDeals 259 = .ok (.ifCond .eq 133, 3) := by decide +kernel
theorem dL_areDeals_262 : decode cL_areDeals 262 = .ok (.iconst 0, 1) := by decide +kernel
theorem dL_areDeals_263 : decode cL_areDeals 263 = .ok (.istore 8, 2) := by decide +kernel
theorem dL_areDeals_265 : decode cL_areDeals 265 = .ok (.iconst 0, 1) := by decide +kernel
theorem dL_areDeals_266 : decode cL_areDeals 266 = .ok (.istore 9, 2) := by decide +kernel
theorem dL_areDeals_268 : decode cL_areDeals 268 = .ok (.iconst 0, 1) := by decide +kernel
theorem dL_areDeals_269 : decode cL_areDeals 269 = .ok (.istore 10, 2) := by decide +kernel
theorem dL_areDeals_271 : decode cL_areDeals 271 = .ok (.iconst 0, 1) := by decide +kernel
theorem dL_areDeals_272 : decode cL_areDeals 272 = .ok (.istore 11, 2) := by decide +kernel
theorem dL_areDeals_274 : decode cL_areDeals 274 = .ok (.iload 11, 2) := by decide +kernel
theorem dL_areDeals_276 : decode cL_areDeals 276 = .ok (.bipush 8, 2) := by decide +kernel
theorem dL_areDeals_278 : decode cL_areDeals 278 = .ok (.if_icmp .ge 63, 3) := by decide +kernel
theorem dL_areDeals_281 : decode cL_areDeals 281 = .ok (.aload_n 0, 1) := by decide +kernel
theorem dL_areDeals_282 : decode cL_areDeals 282 = .ok (.iload 7, 2) := by decide +kernel
theorem dL_areDeals_284 : decode cL_areDeals 284 = .ok (.iload 11, 2) := by decide +kernel
theorem dL_areDeals_286 : decode cL_areDeals 286 = .ok (.invokestatic 113, 3) := by decide +kernel
theorem dL_areDeals_289 : decode cL_areDeals 289 = .ok (.istore 12, 2) := by decide +kernel
theorem dL_areDeals_291 : decode cL_areDeals 291 = .ok (.iload 8, 2) := by decide +kernel
theorem dL_areDeals_293 : decode cL_areDeals 293 = .ok (.iload 12, 2) := by decide +kernel
theorem dL_areDeals_295 : decode cL_areDeals 295 = .ok (.iadd, 1) := by decide +kernel
theorem dL_areDeals_296 : decode cL_areDeals 296 = .ok (.istore 8, 2) := by decide +kernel
theorem dL_areDeals_298 : decode cL_areDeals 298 = .ok (.iload 9, 2) := by decide +kernel
theorem dL_areDeals_300 : decode cL_areDeals 300 = .ok (.iload 12, 2) := by decide +kernel
theorem dL_areDeals_302 : decode cL_areDeals 302 = .ok (.iload_n 2, 1) := by decide +kernel
theorem dL_areDeals_303 : decode cL_areDeals 303 = .ok (.if_icmp .ne 10, 3) := by decide +kernel
theorem dL_areDeals_306 : decode cL_areDeals 306 = .ok (.iconst 1, 1) := by decide +kernel
theorem dL_areDeals_307 : decode cL_areDeals 307 = .ok (.iload 11, 2) := by decide +kernel
theorem dL_areDeals_309 : decode cL_areDeals 309 = .ok (.ishl, 1) := by decide +kernel
theorem dL_areDeals_310 : decode cL_areDeals 310 = .ok (.goto 4, 3) := by decide +kernel
theorem dL_areDeals_313 : decode cL_areDeals 313 = .ok (.iconst 0, 1) := by decide +kernel
theorem dL_areDeals_314 : decode cL_areDeals 314 = .ok (.ior, 1) := by decide +kernel
theorem dL_areDeals_315 : decode cL_areDeals 315 = .ok (.istore 9, 2) := by decide +kernel
theorem dL_areDeals_317 : decode cL_areDeals 317 = .ok (.iload 10, 2) := by decide +kernel
theorem dL_areDeals_319 : decode cL_areDeals 319 = .ok (.iload 12, 2) := by decide +kernel
theorem dL_areDeals_321 : decode cL_areDeals 321 = .ok (.ifCond .le 10, 3) := by decide +kernel
theorem dL_areDeals_324 : decode cL_areDeals 324 = .ok (.iconst 1, 1) := by decide +kernel
theorem dL_areDeals_325 : decode cL_areDeals 325 = .ok (.iload 11, 2) := by decide +kernel
theorem dL_areDeals_327 : decode cL_areDeals 327 = .ok (.ishl, 1) := by decide +kernel
theorem dL_areDeals_328 : decode cL_areDeals 328 = .ok (.goto 4, 3) := by decide +kernel
theorem dL_areDeals_331 : decode cL_areDeals 331 = .ok (.iconst 0, 1) := by decide +kernel
theorem dL_areDeals_332 : decode cL_areDeals 332 = .ok (.ior, 1) := by decide +kernel
theorem dL_areDeals_333 : decode cL_areDeals 333 = .ok (.istore 10, 2) := by decide +kernel
theorem dL_areDeals_335 : decode cL_areDeals 335 = .ok (.iinc 11 1, 3) := by decide +kernel
theorem dL_areDeals_338 : decode cL_areDeals 338 = .ok (.goto (-64), 3) := by decide +kernel
theorem dL_areDeals_341 : decode cL_areDeals 341 = .ok (.iload 8, 2) := by decide +kernel
theorem dL_areDeals_343 : decode cL_areDeals 343 = .ok (.iload_n 2, 1) := by decide +kernel
theorem dL_areDeals_344 : decode cL_areDeals 344 = .ok (.aload_n 0, 1) := by decide +kernel
theorem dL_areDeals_345 : decode cL_areDeals 345 = .ok (.iload 7, 2) := by decide +kernel
theorem dL_areDeals_347 : decode cL_areDeals 347 = .ok (.iconst 0, 1) := by decide +kernel
theorem dL_areDeals_348 : decode cL_areDeals 348 = .ok (.invokestatic 90, 3) := by decide +kernel
theorem dL_areDeals_351 : decode cL_areDeals 351 = .ok (.imul, 1) := by decide +kernel
theorem dL_areDeals_352 : decode cL_areDeals 352 = .ok (.if_icmp .ne 31, 3) := by decide +kernel
theorem dL_areDeals_355 : decode cL_areDeals 355 = .ok (.aload_n 0, 1) := by decide +kernel
theorem dL_areDeals_356 : decode cL_areDeals 356 = .ok (.iload 7, 2) := by decide +kernel
theorem dL_areDeals_358 : decode cL_areDeals 358 = .ok (.iconst 4, 1) := by decide +kernel
theorem dL_areDeals_359 : decode cL_areDeals 359 = .ok (.invokestatic 90, 3) := by decide +kernel
theorem dL_areDeals_362 : decode cL_areDeals 362 = .ok (.iload 9, 2) := by decide +kernel
theorem dL_areDeals_364 : decode cL_areDeals 364 = .ok (.if_icmp .ne 19, 3) := by decide +kernel
theorem dL_areDeals_367 : decode cL_areDeals 367 = .ok (.aload_n 0, 1) := by decide +kernel
theorem dL_areDeals_368 : decode cL_areDeals 368 = .ok (.iload 7, 2) := by decide +kernel
theorem dL_areDeals_370 : decode cL_areDeals 370 = .ok (.iconst 5, 1) := by decide +kernel
theorem dL_areDeals_371 : decode cL_areDeals 371 = .ok (.invokestatic 90, 3) := by decide +kernel
theorem dL_areDeals_374 : decode cL_areDeals 374 = .ok (.iload 10, 2) := by decide +kernel
theorem dL_areDeals_376 : decode cL_areDeals 376 = .ok (.if_icmp .ne 7, 3) := by decide +kernel
theorem dL_areDeals_379 : decode cL_areDeals 379 = .ok (.iconst 1, 1) := by decide +kernel
theorem dL_areDeals_380 : decode cL_areDeals 380 = .ok (.goto 4, 3) := by decide +kernel
theorem dL_areDeals_383 : decode cL_areDeals 383 = .ok (.iconst 0, 1) := by decide +kernel
theorem dL_areDeals_384 : decode cL_areDeals 384 = .ok (.istore 6, 2) := by decide +kernel
theorem dL_areDeals_386 : decode cL_areDeals 386 = .ok (.iinc 7 1, 3) := by decide +kernel
theorem dL_areDeals_389 : decode cL_areDeals 389 = .ok (.goto (-138), 3) := by decide +kernel
theorem dL_areDeals_392 : decode cL_areDeals 392 = .ok (.iload 6, 2) := by decide +kernel
theorem dL_areDeals_394 : decode cL_areDeals 394 = .ok (.ireturn, 1) := by decide +kernel
set_option maxRecDepth 20000 in
theorem ggL_areGuests_L_value : GoodIn wsL_areGuests wsL_value := goodIn_ca (goodIn_r _ [4, 5, 6, 7, 8, 9, 10, 11, 12, 13, 14, 15, 16, 17, 18, 19, 20, 21, 22, 23, 24, 25, 26, 27, 28, 29, 30, 31, 32, 33, 34, 35, 36, 110, 111, 112, 113, 114, 115, 116, 117, 118, 119, 120, 121, 122, 123, 124, 125, 126, 127, 128, 129, 130, 131, 132, 133] (by decide +kernel) (by decide +kernel)) (goodIn_sub (fun _ h => List.mem_cons_of_mem _ (List.mem_append_left _ (List.mem_append_right _ h))) (by decide +kernel))
set_option maxRecDepth 20000 in
theorem gL_areGuests_L_value : GoodIn wsL_areGuests (va_wsS RL 85 yL_value wsL_value) := goodIn_app (goodIn_of _ (by decide +kernel)) ggL_areGuests_L_value
set_option maxRecDepth 20000 in
theorem ggL_areGuests_L_guest_h : GoodIn wsL_areGuests [.codeWith yL_guest cL_guest 5 (some .int) [(0, 7, 10, 25), (0, 7, 15, 15)]] := goodIn_r _ [39] (by decide +kernel) (by decide +kernel)
set_option maxRecDepth 20000 in
theorem ggL_areGuests_L_guest_r1 : GoodIn wsL_areGuests wsL_guest_r1 := goodIn_r _ [40, 5, 41, 6, 42, 43, 44, 10, 45, 46, 47, 12, 13, 14, 48, 49, 50, 18, 51, 20, 52, 53, 54, 55] (by decide +kernel) (by decide +kernel)
set_option maxRecDepth 20000 in
theorem ggL_areGuests_L_guest_r2 : GoodIn wsL_areGuests wsL_guest_r2 := goodIn_r _ [28, 56, 57, 21, 58, 59, 60, 61, 62, 63, 64, 65, 22, 66, 67, 68, 69, 70, 71, 72, 73, 74, 75, 76] (by decide +kernel) (by decide +kernel)
set_option maxRecDepth 20000 in
theorem ggL_areGuests_L_guest_r3 : GoodIn wsL_areGuests wsL_guest_r3 := goodIn_r _ [77, 78, 79, 80, 81, 82, 83, 84, 85, 86, 87, 88, 89, 90, 91, 92, 93] (by decide +kernel) (by decide +kernel)
set_option maxRecDepth 20000 in
theorem ggL_areGuests_L_guest_x4 : GoodIn wsL_areGuests wsX40 := goodIn_r _ [110, 111, 112, 113, 114, 115, 116] (by decide +kernel) (by decide +kernel)
set_option maxRecDepth 20000 in
theorem ggL_areGuests_L_guest_x1 : GoodIn wsL_areGuests wsX10 := goodIn_r _ [117, 118, 119, 120, 121, 122, 123, 124, 125, 126, 127, 128, 129, 130, 131, 132, 133] (by decide +kernel) (by decide +kernel)
set_option maxRecDepth 20000 in
theorem ggL_areGuests_L_guest_x0 : GoodIn wsL_areGuests wsX00 := goodIn_r _ [134, 135, 136, 137] (by decide +kernel) (by decide +kernel)
set_option maxRecDepth 20000 in
theorem ggL_areGuests_L_guest : GoodIn wsL_areGuests wsL_guest := goodIn_ca (goodIn_ca (goodIn_cc ggL_areGuests_L_guest_h (goodIn_app (goodIn_app (goodIn_app (goodIn_app ggL_areGuests_L_guest_r1 (goodIn_app ggL_areGuests_L_guest_r2 (ggL_areGuests_L_guest_r3))) ggL_areGuests_L_guest_x4) ggL_areGuests_L_guest_x1) ggL_areGuests_L_guest_x0)) (goodIn_sub (fun _ h => List.mem_cons_of_mem _ (List.mem_append_right _ h)) (by decide +kernel))) (goodIn_sub (fun _ h => List.mem_cons_of_mem _ (List.mem_append_left _ (List.mem_append_right _ h))) (by decide +kernel))
set_option maxRecDepth 20000 in
theorem gL_areGuests_L_guest : GoodIn wsL_areGuests (va_wsS RL 90 yL_guest wsL_guest) := goodIn_app (goodIn_of _ (by decide +kernel)) ggL_areGuests_L_guest
set_option maxRecDepth 20000 in
theorem ggL_areGuests_L_ones : GoodIn wsL_areGuests wsL_ones := goodIn_r _ [96] (by decide +kernel) (by decide +kernel)
set_option maxRecDepth 20000 in
theorem gL_areGuests_L_ones : GoodIn wsL_areGuests (va_wsS RL 136 yL_ones wsL_ones) := goodIn_app (goodIn_of _ (by decide +kernel)) ggL_areGuests_L_ones
set_option maxRecDepth 20000 in
theorem ggL_areGuests_L_question : GoodIn wsL_areGuests wsL_question := goodIn_ca (goodIn_ca (goodIn_r _ [99, 40, 5, 41, 6, 100, 101, 102, 10, 103, 46, 47, 12, 13, 14, 104, 105, 106, 18, 107, 66, 108, 109, 110, 111, 112, 113, 114, 115, 116, 117, 118, 119, 120, 121, 122, 123, 124, 125, 126, 127, 128, 129, 130, 131, 132, 133] (by decide +kernel) (by decide +kernel)) (goodIn_sub (fun _ h => List.mem_cons_of_mem _ (List.mem_append_right _ h)) (by decide +kernel))) (goodIn_sub (fun _ h => List.mem_cons_of_mem _ (List.mem_append_left _ (List.mem_append_right _ h))) (by decide +kernel))
