theorem dL_areDeals_91 : decode cL_areDeals 91 = .ok (.iload_n 3, 1) := by decide +kernel
theorem dL_areDeals_92 : decode cL_areDeals 92 = .ok (.iload 8, 2) := by decide +kernel
theorem dL_areDeals_94 : decode cL_areDeals 94 = .ok (.iadd, 1) := by decide +kernel
theorem dL_areDeals_95 : decode cL_areDeals 95 = .ok (.istore_n 3, 1) := by decide +kernel
theorem dL_areDeals_96 : decode cL_areDeals 96 = .ok (.iload 4, 2) := by decide +kernel
theorem dL_areDeals_98 : decode cL_areDeals 98 = .ok (.iload 8, 2) := by decide +kernel
theorem dL_areDeals_100 : decode cL_areDeals 100 = .ok (.ifCond .le 10, 3) := by decide +kernel
theorem dL_areDeals_103 : decode cL_areDeals 103 = .ok (.iconst 1, 1) := by decide +kernel
theorem dL_areDeals_104 : decode cL_areDeals 104 = .ok (.iload 7, 2) := by decide +kernel
theorem dL_areDeals_106 : decode cL_areDeals 106 = .ok (.ishl, 1) := by decide +kernel
theorem dL_areDeals_107 : decode cL_areDeals 107 = .ok (.goto 4, 3) := by decide +kernel
theorem dL_areDeals_110 : decode cL_areDeals 110 = .ok (.iconst 0, 1) := by decide +kernel
theorem dL_areDeals_111 : decode cL_areDeals 111 = .ok (.ior, 1) := by decide +kernel
theorem dL_areDeals_112 : decode cL_areDeals 112 = .ok (.istore 4, 2) := by decide +kernel
theorem dL_areDeals_114 : decode cL_areDeals 114 = .ok (.iload 8, 2) := by decide +kernel
theorem dL_areDeals_116 : decode cL_areDeals 116 = .ok (.aload_n 0, 1) := by decide +kernel
theorem dL_areDeals_117 : decode cL_areDeals 117 = .ok (.iload 5, 2) := by decide +kernel
theorem dL_areDeals_119 : decode cL_areDeals 119 = .ok (.invokestatic 111, 3) := by decide +kernel
theorem dL_areDeals_122 : decode cL_areDeals 122 = .ok (.if_icmp .le 8, 3) := by decide +kernel
theorem dL_areDeals_125 : decode cL_areDeals 125 = .ok (.iload 7, 2) := by decide +kernel
theorem dL_areDeals_127 : decode cL_areDeals 127 = .ok (.goto 5, 3) := by decide +kernel
theorem dL_areDeals_130 : decode cL_areDeals 130 = .ok (.iload 5, 2) := by decide +kernel
theorem dL_areDeals_132 : decode cL_areDeals 132 = .ok (.istore 5, 2) := by decide +kernel
theorem dL_areDeals_134 : decode cL_areDeals 134 = .ok (.iconst 0, 1) := by decide +kernel
theorem dL_areDeals_135 : decode cL_areDeals 135 = .ok (.istore 10, 2) := by decide +kernel
theorem dL_areDeals_137 : decode cL_areDeals 137 = .ok (.iload 10, 2) := by decide +kernel
theorem dL_areDeals_139 : decode cL_areDeals 139 = .ok (.iload_n 1, 1) := by decide +kernel
theorem dL_areDeals_140 : decode cL_areDeals 140 = .ok (.if_icmp .ge 22, 3) := by decide +kernel
theorem dL_areDeals_143 : decode cL_areDeals 143 = .ok (.iload 9, 2) := by decide +kernel
theorem dL_areDeals_145 : decode cL_areDeals 145 = .ok (.aload_n 0, 1) := by decide +kernel
theorem dL_areDeals_146 : decode cL_areDeals 146 = .ok (.iload 10, 2) := by decide +kernel
theorem dL_areDeals_148 : decode cL_areDeals 148 = .ok (.iload 7, 2) := by decide +kernel
theorem dL_areDeals_150 : decode cL_areDeals 150 = .ok (.invokestatic 113, 3) := by decide +kernel
theorem dL_areDeals_153 : decode cL_areDeals 153 = .ok (.iadd, 1) := by decide +kernel
theorem dL_areDeals_154 : decode cL_areDeals 154 = .ok (.istore 9, 2) := by decide +kernel
theorem dL_areDeals_156 : decode cL_areDeals 156 = .ok (.iinc 10 1, 3) := by decide +kernel
theorem dL_areDeals_159 : decode cL_areDeals 159 = .ok (.goto (-22), 3) := by decide +kernel
theorem dL_areDeals_162 : decode cL_areDeals 162 = .ok (.iload 9, 2) := by decide +kernel
theorem dL_areDeals_164 : decode cL_areDeals 164 = .ok (.iload_n 2, 1) := by decide +kernel
theorem dL_areDeals_165 : decode cL_areDeals 165 = .ok (.if_icmp .ne 31, 3) := by decide +kernel
theorem dL_areDeals_168 : decode cL_areDeals 168 = .ok (.aload_n 0, 1) := by decide +kernel
theorem dL_areDeals_169 : decode cL_areDeals 169 = .ok (.iload 7, 2) := by decide +kernel
theorem dL_areDeals_171 : decode cL_areDeals 171 = .ok (.invokestatic 127, 3) := by decide +kernel
theorem dL_areDeals_174 : decode cL_areDeals 174 = .ok (.iload_n 2, 1) := by decide +kernel
theorem dL_areDeals_175 : decode cL_areDeals 175 = .ok (.ifCond .ne 7, 3) := by decide +kernel
theorem dL_areDeals_178 : decode cL_areDeals 178 = .ok (.dconst 0, 1) := by decide +kernel
theorem dL_areDeals_179 : decode cL_areDeals 179 = .ok (.goto 9, 3) := by decide +kernel
theorem dL_areDeals_182 : decode cL_areDeals 182 = .ok (.iload 8, 2) := by decide +kernel
theorem dL_areDeals_184 : decode cL_areDeals 184 = .ok (.i2d, 1) := by decide +kernel
theorem dL_areDeals_185 : decode cL_areDeals 185 = .ok (.iload_n 2, 1) := by decide +kernel
theorem dL_areDeals_186 : decode cL_areDeals 186 = .ok (.i2d, 1) := by decide +kernel
theorem dL_areDeals_187 : decode cL_areDeals 187 = .ok (.ddiv, 1) := by decide +kernel
theorem dL_areDeals_188 : decode cL_areDeals 188 = .ok (.dcmp .l, 1) := by decide +kernel
theorem dL_areDeals_189 : decode cL_areDeals 189 = .ok (.ifCond .ne 7, 3) := by decide +kernel
theorem dL_areDeals_192 : decode cL_areDeals 192 = .ok (.iconst 1, 1) := by decide +kernel
theorem dL_areDeals_193 : decode cL_areDeals 193 = .ok (.goto 4, 3) := by decide +kernel
theorem dL_areDeals_196 : decode cL_areDeals 196 = .ok (.iconst 0, 1) := by decide +kernel
theorem dL_areDeals_197 : decode cL_areDeals 197 = .ok (.istore 6, 2) := by decide +kernel
theorem dL_areDeals_199 : decode cL_areDeals 199 = .ok (.iinc 7 1, 3) := by decide +kernel
theorem dL_areDeals_202 : decode cL_areDeals 202 = .ok (.goto (-135), 3) := by decide +kernel
theorem dL_areDeals_205 : decode cL_areDeals 205 = .ok (.iload 6, 2) := by decide +kernel
theorem dL_areDeals_207 : decode cL_areDeals 207 = .ok (.ifCond .eq 38, 3) := by decide +kernel
theorem dL_areDeals_210 : decode cL_areDeals 210 = .ok (.iload_n 3, 1) := by decide +kernel
theorem dL_areDeals_211 : decode cL_areDeals 211 = .ok (.iload_n 2, 1) := by decide +kernel
theorem dL_areDeals_212 : decode cL_areDeals 212 = .ok (.if_icmp .ne 33, 3) := by decide +kernel
theorem dL_areDeals_215 : decode cL_areDeals 215 = .ok (.aload_n 0, 1) := by decide +kernel
theorem dL_areDeals_216 : decode cL_areDeals 216 = .ok (.invokevirtual 130, 3) := by decide +kernel
theorem dL_areDeals_219 : decode cL_areDeals 219 = .ok (.iload 4, 2) := by decide +kernel
theorem dL_areDeals_221 : decode cL_areDeals 221 = .ok (.if_icmp .ne 24, 3) := by decide +kernel
theorem dL_areDeals_224 : decode cL_areDeals 224 = .ok (.aload_n 0, 1) := by decide +kernel
theorem dL_areDeals_225 : decode cL_areDeals 225 = .ok (.invokevirtual 133, 3) := by decide +kernel
theorem dL_areDeals_228 : decode cL_areDeals 228 = .ok (.iload_n 1, 1) := by decide +kernel
theorem dL_areDeals_229 : decode cL_areDeals 229 = .ok (.ifCond .ne 7, 3) := by decide +kernel
theorem dL_areDeals_232 : decode cL_areDeals 232 = .ok (.iconst (-1), 1) := by decide +kernel
theorem dL_areDeals_233 : decode cL_areDeals 233 = .ok (.goto 5, 3) := by decide +kernel
theorem dL_areDeals_236 : decode cL_areDeals 236 = .ok (.iload 5, 2) := by decide +kernel
theorem dL_areDeals_238 : decode cL_areDeals 238 = .ok (.if_icmp .ne 7, 3) := by decide +kernel
theorem dL_areDeals_241 : decode cL_areDeals 241 = .ok (.iconst 1, 1) := by decide +kernel
theorem dL_areDeals_242 : decode cL_areDeals 242 = .ok (.goto 4, 3) := by decide +kernel
theorem dL_areDeals_245 : decode cL_areDeals 245 = .ok (.iconst 0, 1) := by decide +kernel
theorem dL_areDeals_246 : decode cL_areDeals 246 = .ok (.istore 6, 2) := by decide +kernel
theorem dL_areDeals_248 : decode cL_areDeals 248 = .ok (.iconst 0, 1) := by decide +kernel
theorem dL_areDeals_249 : decode cL_areDeals 249 = .ok (.istore 7, 2) := by decide +kernel
theorem dL_areDeals_251 : decode cL_areDeals 251 = .ok (.iload 7, 2) := by decide +kernel
theorem dL_areDeals_253 : decode cL_areDeals 253 = .ok (.iload_n 1, 1) := by decide +kernel
theorem dL_areDeals_254 : decode cL_areDeals 254 = .ok (.if_icmp .ge 138, 3) := by decide +kernel
theorem dL_areDeals_257 : decode cL_areDeals 257 = .ok (.iload 6, 2) := by decide +kernel
theorem dL_areDeals_259 : decode cL_areDeals 259 = .ok (.ifCond .eq 133, 3) := by decide +kernel
theorem dL_areDeals_262 : decode cL_areDeals 262 = .ok (.iconst 0, 1) := by decide +kernel
theorem dL_areDeals_263 : decode cL_areDeals 263 = .ok (.istore 8, 2) := by decide +kernel
theorem dL_areDeals_265 : decode cL_areDeals 265 = .ok (.iconst 0, 1) := by decide +kernel
theorem dL_areDeals_266 : decode cL_areDeals 266 = .ok (.istore 9, 2) := by decide +kernel
theorem dL_areDeals_268 : decode cL_areDeals 268 = .ok (.iconst 0, 1) := by decide +kernel
theorem dL_areDeals_269 : decode cL_areDeals 269 = .ok (.istore 10, 2) := by decide +kernel
theorem dL_areDeals_271 : decode cL_areDeals 271 = .ok (.iconst 0, 1) := by decide +kernel
theorem dL_areDeals_272 : decode cL_areDeals 272 = .ok (.istore 11, 2) := by decide +kernel
theorem dL_areDeals_274 : decode cL_areDeals 274 = .ok (.iload 11, 2) := by decide +kernel
theorem dL_areDeals_276 : decode cL_areDeals 276 = .ok (.bipush 8, 2) := by decide +kernel
theorem dL_areDeals_278 : decode cL_areDeals 278 = .ok (.if_icmp .ge 63, 3) := by decide +kernel
theorem dL_areDeals_281 : decode cL_areDeals 281 = .ok (.aload_n 0, 1) := by decide +kernel
theorem dL_areDeals_282 : decode cL_areDeals 282 = .ok (.iload 7, 2) := by decide +kernel
theorem dL_areDeals_284 : decode cL_areDeals 284 = .ok (.iload 11, 2) := by decide +kernel
theorem dL_areDeals_286 : decode cL_areDeals 286 = .ok (.invokestatic 113, 3) := by decide +kernel
theorem dL_areDeals_289 : decode cL_areDeals 289 = .ok (.istore 12, 2) := by decide +kernel
theorem dL_areDeals_291 : decode cL_areDeals 291 = .ok (.iload 8, 2) := by decide +kernel
theorem dL_areDeals_293 : decode cL_areDeals 293 = .ok (.iload 12, 2) := by decide +kernel
theorem dL_areDeals_295 : decode cL_areDeals 295 = .ok (.iadd, 1) := by decide +kernel
theorem dL_areDeals_296 : decode cL_areDeals 296 = .ok (.istore 8, 2) := by decide +kernel
theorem dL_areDeals_298 : decode cL_areDeals 298 = .ok (.iload 9, 2) := by decide +kernel
theorem dL_areDeals_300 : decode cL_areDeals 300 = .ok (.iload 12, 2) := by decide +kernel
theorem dL_areDeals_302 : decode cL_areDeals 302 = .ok (.iload_n 2, 1) := by decide +kernel
theorem dL_areDeals_303 : decode cL_areDeals 303 = .ok (.if_icmp .ne 10, 3) := by decide +kernel
theorem dL_areDeals_306 : decode cL_areDeals 306 = .ok (.iconst 1, 1) := by decide +kernel
theorem dL_areDeals_307 : decode cL_areDeals 307 = .ok (.iload 11, 2) := by decide +kernel
theorem dL_areDeals_309 : decode cL_areDeals 309 = .ok (.ishl, 1) := by decide +kernel
theorem dL_areDeals_310 : decode cL_areDeals 310 = .ok (.goto 4, 3) := by decide +kernel
theorem dL_areDeals_313 : decode cL_areDeals 313 = .ok (.iconst 0, 1) := by decide +kernel
theorem dL_areDeals_314 : decode cL_areDeals 314 = .ok (.ior, 1) := by decide +kernel
theorem dL_areDeals_315 : decode cL_areDeals 315 = .ok (.istore 9, 2) := by decide +kernel
theorem dL_areDeals_317 : decode cL_areDeals 317 = .ok (.iload 10, 2) := by decide +kernel
theorem dL_areDeals_319 : decode cL_areDeals 319 = .ok (.iload 12, 2) := by decide +kernel
theorem dL_areDeals_321 : decode cL_areDeals 321 = .ok (.ifCond .le 10, 3) := by decide +kernel
theorem dL_areDeals_324 : decode cL_areDeals 324 = .ok (.iconst 1, 1) := by decide +kernel
theorem dL_areDeals_325 : decode cL_areDeals 325 = .ok (.iload 11, 2) := by decide +kernel
theorem dL_areDeals_327 : decode cL_areDeals 327 = .ok (.ishl, 1) := by decide +kernel
theorem dL_areDeals_328 : decode cL_areDeals 328 = .ok (.goto 4, 3) := by decide +kernel
theorem dL_areDeals_331 : decode cL_areDeals 331 = .ok (.iconst 0, 1) := by decide +kernel
theorem dL_areDeals_332 : decode cL_areDeals 332 = .ok (.ior, 1) := by decide +kernel
theorem dL_areDeals_333 : decode cL_areDeals 333 = .ok (.istore 10, 2) := by decide +kernel
theorem dL_areDeals_335 : decode cL_areDeals 335 = .ok (.iinc 11 1, 3) := by decide +kernel
theorem dL_areDeals_338 : decode cL_areDeals 338 = .ok (.goto (-64), 3) := by decide +kernel
theorem dL_areDeals_341 : decode cL_areDeals 341 = .ok (.iload 8, 2) := by decide +kernel
theorem dL_areDeals_343 : decode cL_areDeals 343 = .ok (.iload_n 2, 1) := by decide +kernel
theorem dL_areDeals_344 : decode cL_areDeals 344 = .ok (.aload_n 0, 1) := by decide +kernel
theorem dL_areDeals_345 : decode cL_areDeals 345 = .ok (.iload 7, 2) := by decide +kernel
theorem dL_areDeals_347 : decode cL_areDeals 347 = .ok (.iconst 0, 1) := by decide +kernel
theorem dL_areDeals_348 : decode cL_areDeals 348 = .ok (.invokestatic 90, 3) := by decide +kernel
theorem dL_areDeals_351 : decode cL_areDeals 351 = .ok (.imul, 1) := by decide +kernel
theorem dL_areDeals_352 : decode cL_areDeals 352 = .ok (.if_icmp .ne 31, 3) := by decide +kernel
theorem dL_areDeals_355 : decode cL_areDeals 355 = .ok (.aload_n 0, 1) := by decide +kernel
theorem dL_areDeals_356 : decode cL_areDeals 356 = .ok (.iload 7, 2) := by decide +kernel
theorem dL_areDeals_358 : decode cL_areDeals 358 = .ok (.iconst 4, 1) := by decide +kernel
theorem dL_areDeals_359 : decode cL_areDeals 359 = .ok (.invokestatic 90, 3) := by decide +kernel
theorem dL_areDeals_362 : decode cL_areDeals 362 = .ok (.iload 9, 2) := by decide +kernel
theorem dL_areDeals_364 : decode cL_areDeals 364 = .ok (.if_icmp .ne 19, 3) := by decide +kernel
theorem dL_areDeals_367 : decode cL_areDeals 367 = .ok (.aload_n 0, 1) := by decide +kernel
theorem dL_areDeals_368 : decode cL_areDeals 368 = .ok (.iload 7, 2) := by decide +kernel
theorem dL_areDeals_370 : decode cL_areDeals 370 = .ok (.iconst 5, 1) := by decide +kernel
theorem dL_areDeals_371 : decode cL_areDeals 371 = .ok (.invokestatic 90, 3) := by decide +kernel
theorem dL_areDeals_374 : decode cL_areDeals 374 = .ok (.iload 10, 2) := by decide +kernel
theorem dL_areDeals_376 : decode cL_areDeals 376 = .ok (.if_icmp .ne 7, 3) := by decide +kernel
theorem dL_areDeals_379 : decode cL_areDeals 379 = .ok (.iconst 1, 1) := by decide +kernel
theorem dL_areDeals_380 : decode cL_areDeals 380 = .ok (.goto 4, 3) := by decide +kernel
theorem dL_areDeals_383 : decode cL_areDeals 383 = .ok (.iconst 0, 1) := by decide +kernel
theorem dL_areDeals_384 : decode cL_areDeals 384 = .ok (.istore 6, 2) := by decide +kernel
theorem dL_areDeals_386 : decode cL_areDeals 386 = .ok (.iinc 7 1, 3) := by decide +kernel
theorem dL_areDeals_389 : decode cL_areDeals 389 = .ok (.goto (-138), 3) := by decide +kernel
theorem dL_areDeals_392 : decode cL_areDeals 392 = .ok (.iload 6, 2) := by decide +kernel
theorem dL_areDeals_394 : decode cL_areDeals 394 = .ok (.ireturn, 1) := by decide +kernel
set_option maxRecDepth 20000 in
theorem ggL_areGuests_L_value : GoodIn wsL_areGuests wsL_value := goodIn_ca (goodIn_r _ [4, 5, 6, 7, 8, 9, 10, 11, 12, 13, 14, 15, 16, 17, 18, 19, 20, 21, 22, 23, 24, 25, 26, 27, 28, 29, 30, 31, 32, 33, 34, 35, 36, 110, 111, 112, 113, 114, 115, 116, 117, 118, 119, 120, 121, 122, 123, 124, 125, 126, 127, 128, 129, 130, 131, 132, 133] (by decide +kernel) (by decide +kernel)) (goodIn_sub (fun _ h => List.mem_cons_of_mem _ (List.mem_append_left _ (List.mem_append_right _ h))) (by decide +kernel))
set_option maxRecDepth 20000 in
theorem gL_areGuests_L_value : GoodIn wsL_areGuests (va_wsS RL 85 yL_value wsL_value) := goodIn_app (goodIn_of _ (by decide +kernel)) ggL_areGuests_L_value
set_option maxRecDepth 20000 in
theorem ggL_areGuests_L_guest : GoodIn wsL_areGuests wsL_guest := goodIn_ca (goodIn_ca (goodIn_r _ [39, 40, 5, 41, 6, 42, 43, 44, 10, 45, 46, 47, 12, 13, 14, 48, 49, 50, 18, 51, 20, 52, 53, 54, 55, 28, 56, 57, 21, 58, 59, 60, 61, 62, 63, 64, 65, 22, 66, 67, 68, 69, 70, 71, 72, 73, 74, 75, 76, 77, 78, 79, 80, 81, 82, 83, 84, 85, 86, 87, 88, 89, 90, 91, 92, 93, 110, 111, 112, 113, 114, 115, 116, 117, 118, 119, 120, 121, 122, 123, 124, 125, 126, 127, 128, 129, 130, 131, 132, 133, 134, 135, 136, 137] (by decide +kernel) (by decide +kernel)) (goodIn_sub (fun _ h => List.mem_cons_of_mem _ (List.mem_append_right _ h)) (by decide +kernel))) (goodIn_sub (fun _ h => List.mem_cons_of_mem _ (List.mem_append_left _ (List.mem_append_right _ h))) (by decide +kernel))
set_option maxRecDepth 20000 in
theorem gL_areGuests_L_guest : GoodIn wsL_areGuests (va_wsS RL 90 yL_guest wsL_guest) := goodIn_app (goodIn_of _ (by decide +kernel)) ggL_areGuests_L_guest
set_option maxRecDepth 20000 in
theorem ggL_areGuests_L_ones : GoodIn wsL_areGuests wsL_ones := goodIn_r _ [96] (by decide +kernel) (by decide +kernel)
set_option maxRecDepth 20000 in
theorem gL_areGuests_L_ones : GoodIn wsL_areGuests (va_wsS RL 136 yL_ones wsL_ones) := goodIn_app (goodIn_of _ (by decide +kernel)) ggL_areGuests_L_ones
set_option maxRecDepth 20000 in
theorem ggL_areGuests_L_question : GoodIn wsL_areGuests wsL_question := goodIn_ca (goodIn_ca (goodIn_r _ [99, 40, 5, 41, 6, 100, 101, 102, 10, 103, 46, 47, 12, 13, 14, 104, 105, 106, 18, 107, 66, 108, 109, 110, 111, 112, 113, 114, 115, 116, 117, 118, 119, 120, 121, 122, 123, 124, 125, 126, 127, 128, 129, 130, 131, 132, 133] (by decide +kernel) (by decide +kernel)) (goodIn_sub (fun _ h => List.mem_cons_of_mem _ (List.mem_append_right _ h)) (by decide +kernel))) (goodIn_sub (fun _ h => List.mem_cons_of_mem _ (List.mem_append_left _ (List.mem_append_right _ h))) (by decide +kernel))
set_option maxRecDepth 20000 in
theorem gL_areGuests_L_question : GoodIn wsL_areGuests (va_wsS RL 93 yL_question wsL_question) := goodIn_app (goodIn_of _ (by decide +kernel)) ggL_areGuests_L_question
theorem dL_areGuests_0 : decode cL_areGuests 0 = .ok (.iconst 0, 1) := by decide +kernel
theorem dL_areGuests_1 : decode cL_areGuests 1 = .ok (.istore_n 1, 1) := by decide +kernel
theorem dL_areGuests_2 : decode cL_areGuests 2 = .ok (.iconst 0, 1) := by decide +kernel
theorem dL_areGuests_3 : decode cL_areGuests 3 = .ok (.istore_n 2, 1) := by decide +kernel
theorem dL_areGuests_4 : decode cL_areGuests 4 = .ok (.iconst 0, 1) := by decide +kernel
theorem dL_areGuests_5 : decode cL_areGuests 5 = .ok (.istore_n 3, 1) := by decide +kernel
theorem dL_areGuests_6 : decode cL_areGuests 6 = .ok (.iconst 0, 1) := by decide +kernel
theorem dL_areGuests_7 : decode cL_areGuests 7 = .ok (.istore 4, 2) := by decide +kernel
theorem dL_areGuests_9 : decode cL_areGuests 9 = .ok (.iconst 0, 1) := by decide +kernel
theorem dL_areGuests_10 : decode cL_areGuests 10 = .ok (.istore 5, 2) := by decide +kernel
theorem dL_areGuests_12 : decode cL_areGuests 12 = .ok (.aload_n 0, 1) := by decide +kernel
theorem dL_areGuests_13 : decode cL_areGuests 13 = .ok (.iconst 0, 1) := by decide +kernel
theorem dL_areGuests_14 : decode cL_areGuests 14 = .ok (.invokestatic 85, 3) := by decide +kernel
theorem dL_areGuests_17 : decode cL_areGuests 17 = .ok (.istore 6, 2) := by decide +kernel
theorem dL_areGuests_19 : decode cL_areGuests 19 = .ok (.aload_n 0, 1) := by decide +kernel
theorem dL_areGuests_20 : decode cL_areGuests 20 = .ok (.iconst 2, 1) := by decide +kernel
theorem dL_areGuests_21 : decode cL_areGuests 21 = .ok (.invokestatic 85, 3) := by decide +kernel
theorem dL_areGuests_24 : decode cL_areGuests 24 = .ok (.bipush 20, 2) := by decide +kernel
theorem dL_areGuests_26 : decode cL_areGuests 26 = .ok (.if_icmp .gt 37, 3) := by decide +kernel
theorem dL_areGuests_29 : decode cL_areGuests 29 = .ok (.aload_n 0, 1) := by decide +kernel
theorem dL_areGuests_30 : decode cL_areGuests 30 = .ok (.iconst 5, 1) := by decide +kernel
theorem dL_areGuests_31 : decode cL_areGuests 31 = .ok (.invokestatic 85, 3) := by decide +kernel
theorem dL_areGuests_34 : decode cL_areGuests 34 = .ok (.aload_n 0, 1) := by decide +kernel
theorem dL_areGuests_35 : decode cL_areGuests 35 = .ok (.iconst 4, 1) := by decide +kernel
theorem dL_areGuests_36 : decode cL_areGuests 36 = .ok (.invokestatic 85, 3) := by decide +kernel
theorem dL_areGuests_39 : decode cL_areGuests 39 = .ok (.if_icmp .gt 24, 3) := by decide +kernel
theorem dL_areGuests_42 : decode cL_areGuests 42 = .ok (.iload 6, 2) := by decide +kernel
theorem dL_areGuests_44 : decode cL_areGuests 44 = .ok (.ifCond .eq 15, 3) := by decide +kernel
theorem dL_areGuests_47 : decode cL_areGuests 47 = .ok (.iload 6, 2) := by decide +kernel
theorem dL_areGuests_49 : decode cL_areGuests 49 = .ok (.iconst 3, 1) := by decide +kernel
theorem dL_areGuests_50 : decode cL_areGuests 50 = .ok (.if_icmp .eq 9, 3) := by decide +kernel
theorem dL_areGuests_53 : decode cL_areGuests 53 = .ok (.iload 6, 2) := by decide +kernel
theorem dL_areGuests_55 : decode cL_areGuests 55 = .ok (.iconst 4, 1) := by decide +kernel
theorem dL_areGuests_56 : decode cL_areGuests 56 = .ok (.if_icmp .ne 7, 3) := by decide +kernel
theorem dL_areGuests_59 : decode cL_areGuests 59 = .ok (.iconst 1, 1) := by decide +kernel
theorem dL_areGuests_60 : decode cL_areGuests 60 = .ok (.goto 4, 3) := by decide +kernel
theorem dL_areGuests_63 : decode cL_areGuests 63 = .ok (.iconst 0, 1) := by decide +kernel
theorem dL_areGuests_64 : decode cL_areGuests 64 = .ok (.istore 7, 2) := by decide +kernel
theorem dL_areGuests_66 : decode cL_areGuests 66 = .ok (.iconst 0, 1) := by decide +kernel
theorem dL_areGuests_67 : decode cL_areGuests 67 = .ok (.istore 8, 2) := by decide +kernel
theorem dL_areGuests_69 : decode cL_areGuests 69 = .ok (.iload 8, 2) := by decide +kernel
theorem dL_areGuests_71 : decode cL_areGuests 71 = .ok (.iload 6, 2) := by decide +kernel
theorem dL_areGuests_73 : decode cL_areGuests 73 = .ok (.if_icmp .ge 136, 3) := by decide +kernel
theorem dL_areGuests_76 : decode cL_areGuests 76 = .ok (.iload 7, 2) := by decide +kernel
theorem dL_areGuests_78 : decode cL_areGuests 78 = .ok (.ifCond .eq 131, 3) := by decide +kernel
theorem dL_areGuests_81 : decode cL_areGuests 81 = .ok (.iload_n 1, 1) := by decide +kernel
theorem dL_areGuests_82 : decode cL_areGuests 82 = .ok (.aload_n 0, 1) := by decide +kernel
theorem dL_areGuests_83 : decode cL_areGuests 83 = .ok (.iload 8, 2) := by decide +kernel
theorem dL_areGuests_85 : decode cL_areGuests 85 = .ok (.iconst 1, 1) := by decide +kernel
theorem dL_areGuests_86 : decode cL_areGuests 86 = .ok (.invokestatic 90, 3) := by decide +kernel
theorem dL_areGuests_89 : decode cL_areGuests 89 = .ok (.iadd, 1) := by decide +kernel
theorem dL_areGuests_90 : decode cL_areGuests 90 = .ok (.istore_n 1, 1) := by decide +kernel
theorem dL_areGuests_91 : decode cL_areGuests 91 = .ok (.iload_n 2, 1) := by decide +kernel
theorem dL_areGuests_92 : decode cL_areGuests 92 = .ok (.aload_n 0, 1) := by decide +kernel
theorem dL_areGuests_93 : decode cL_areGuests 93 = .ok (.iload 8, 2) := by decide +kernel
theorem dL_areGuests_95 : decode cL_areGuests 95 = .ok (.iconst 2, 1) := by decide +kernel
theorem dL_areGuests_96 : decode cL_areGuests 96 = .ok (.invokestatic 90, 3) := by decide +kernel
theorem dL_areGuests_99 : decode cL_areGuests 99 = .ok (.iadd, 1) := by decide +kernel
theorem dL_areGuests_100 : decode cL_areGuests 100 = .ok (.istore_n 2, 1) := by decide +kernel
theorem dL_areGuests_101 : decode cL_areGuests 101 = .ok (.iload_n 3, 1) := by decide +kernel
theorem dL_areGuests_102 : decode cL_areGuests 102 = .ok (.aload_n 0, 1) := by decide +kernel
theorem dL_areGuests_103 : decode cL_areGuests 103 = .ok (.iload 8, 2) := by decide +kernel
theorem dL_areGuests_105 : decode cL_areGuests 105 = .ok (.iconst 3, 1) := by decide +kernel
theorem dL_areGuests_106 : decode cL_areGuests 106 = .ok (.invokestatic 90, 3) := by decide +kernel
theorem dL_areGuests_109 : decode cL_areGuests 109 = .ok (.iadd, 1) := by decide +kernel
theorem dL_areGuests_110 : decode cL_areGuests 110 = .ok (.istore_n 3, 1) := by decide +kernel
theorem dL_areGuests_111 : decode cL_areGuests 111 = .ok (.iload 5, 2) := by decide +kernel
theorem dL_areGuests_113 : decode cL_areGuests 113 = .ok (.aload_n 0, 1) := by decide +kernel
theorem dL_areGuests_114 : decode cL_areGuests 114 = .ok (.iload 8, 2) := by decide +kernel
theorem dL_areGuests_116 : decode cL_areGuests 116 = .ok (.iconst 0, 1) := by decide +kernel
theorem dL_areGuests_117 : decode cL_areGuests 117 = .ok (.invokestatic 90, 3) := by decide +kernel
theorem dL_areGuests_120 : decode cL_areGuests 120 = .ok (.iadd, 1) := by decide +kernel
theorem dL_areGuests_121 : decode cL_areGuests 121 = .ok (.istore 5, 2) := by decide +kernel
theorem dL_areGuests_123 : decode cL_areGuests 123 = .ok (.aload_n 0, 1) := by decide +kernel
theorem dL_areGuests_124 : decode cL_areGuests 124 = .ok (.iload 8, 2) := by decide +kernel
theorem dL_areGuests_126 : decode cL_areGuests 126 = .ok (.bipush 7, 2) := by decide +kernel
theorem dL_areGuests_128 : decode cL_areGuests 128 = .ok (.invokestatic 90, 3) := by decide +kernel
theorem dL_areGuests_131 : decode cL_areGuests 131 = .ok (.istore 9, 2) := by decide +kernel
theorem dL_areGuests_133 : decode cL_areGuests 133 = .ok (.aload_n 0, 1) := by decide +kernel
theorem dL_areGuests_134 : decode cL_areGuests 134 = .ok (.iconst 1, 1) := by decide +kernel
theorem dL_areGuests_135 : decode cL_areGuests 135 = .ok (.invokestatic 85, 3) := by decide +kernel
theorem dL_areGuests_138 : decode cL_areGuests 138 = .ok (.iconst 1, 1) := by decide +kernel
theorem dL_areGuests_139 : decode cL_areGuests 139 = .ok (.if_icmp .ne 17, 3) := by decide +kernel
theorem dL_areGuests_142 : decode cL_areGuests 142 = .ok (.iload 9, 2) := by decide +kernel
theorem dL_areGuests_144 : decode cL_areGuests 144 = .ok (.iconst (-1), 1) := by decide +kernel
theorem dL_areGuests_145 : decode cL_areGuests 145 = .ok (.if_icmp .ne 7, 3) := by decide +kernel
theorem dL_areGuests_148 : decode cL_areGuests 148 = .ok (.iconst 1, 1) := by decide +kernel
theorem dL_areGuests_149 : decode cL_areGuests 149 = .ok (.goto 35, 3) := by decide +kernel
theorem dL_areGuests_152 : decode cL_areGuests 152 = .ok (.iconst 0, 1) := by decide +kernel
theorem dL_areGuests_153 : decode cL_areGuests 153 = .ok (.goto 31, 3) := by decide +kernel
theorem dL_areGuests_156 : decode cL_areGuests 156 = .ok (.iload 9, 2) := by decide +kernel
theorem dL_areGuests_158 : decode cL_areGuests 158 = .ok (.invokestatic 136, 3) := by decide +kernel
theorem dL_areGuests_161 : decode cL_areGuests 161 = .ok (.aload_n 0, 1) := by decide +kernel
theorem dL_areGuests_162 : decode cL_areGuests 162 = .ok (.iload 8, 2) := by decide +kernel
theorem dL_areGuests_164 : decode cL_areGuests 164 = .ok (.iconst 0, 1) := by decide +kernel
theorem dL_areGuests_165 : decode cL_areGuests 165 = .ok (.invokestatic 90, 3) := by decide +kernel
theorem dL_areGuests_168 : decode cL_areGuests 168 = .ok (.if_icmp .ne 15, 3) := by decide +kernel
theorem dL_areGuests_171 : decode cL_areGuests 171 = .ok (.iload 9, 2) := by decide +kernel
theorem dL_areGuests_173 : decode cL_areGuests 173 = .ok (.iload 4, 2) := by decide +kernel
theorem dL_areGuests_175 : decode cL_areGuests 175 = .ok (.iand, 1) := by decide +kernel
theorem dL_areGuests_176 : decode cL_areGuests 176 = .ok (.ifCond .ne 7, 3) := by decide +kernel
theorem dL_areGuests_179 : decode cL_areGuests 179 = .ok (.iconst 1, 1) := by decide +kernel
theorem dL_areGuests_180 : decode cL_areGuests 180 = .ok (.goto 4, 3) := by decide +kernel
theorem dL_areGuests_183 : decode cL_areGuests 183 = .ok (.iconst 0, 1) := by decide +kernel
theorem dL_areGuests_184 : decode cL_areGuests 184 = .ok (.istore 7, 2) := by decide +kernel
theorem dL_areGuests_186 : decode cL_areGuests 186 = .ok (.iload 4, 2) := by decide +kernel
theorem dL_areGuests_188 : decode cL_areGuests 188 = .ok (.iload 9, 2) := by decide +kernel
theorem dL_areGuests_190 : decode cL_areGuests 190 = .ok (.iconst (-1), 1) := by decide +kernel
theorem dL_areGuests_191 : decode cL_areGuests 191 = .ok (.if_icmp .ne 7, 3) := by decide +kernel
theorem dL_areGuests_194 : decode cL_areGuests 194 = .ok (.iconst 0, 1) := by decide +kernel
theorem dL_areGuests_195 : decode cL_areGuests 195 = .ok (.goto 5, 3) := by decide +kernel
theorem dL_areGuests_198 : decode cL_areGuests 198 = .ok (.iload 9, 2) := by decide +kernel
theorem dL_areGuests_200 : decode cL_areGuests 200 = .ok (.ior, 1) := by decide +kernel
theorem dL_areGuests_201 : decode cL_areGuests 201 = .ok (.istore 4, 2) := by decide +kernel
theorem dL_areGuests_203 : decode cL_areGuests 203 = .ok (.iinc 8 1, 3) := by decide +kernel
theorem dL_areGuests_206 : decode cL_areGuests 206 = .ok (.goto (-137), 3) := by decide +kernel
theorem dL_areGuests_209 : decode cL_areGuests 209 = .ok (.iconst 0, 1) := by decide +kernel
theorem dL_areGuests_210 : decode cL_areGuests 210 = .ok (.istore 8, 2) := by decide +kernel
theorem dL_areGuests_212 : decode cL_areGuests 212 = .ok (.iload 8, 2) := by decide +kernel
theorem dL_areGuests_214 : decode cL_areGuests 214 = .ok (.aload_n 0, 1) := by decide +kernel
theorem dL_areGuests_215 : decode cL_areGuests 215 = .ok (.iconst 2, 1) := by decide +kernel
theorem dL_areGuests_216 : decode cL_areGuests 216 = .ok (.invokestatic 85, 3) := by decide +kernel
theorem dL_areGuests_219 : decode cL_areGuests 219 = .ok (.if_icmp .ge 106, 3) := by decide +kernel
theorem dL_areGuests_222 : decode cL_areGuests 222 = .ok (.iload 7, 2) := by decide +kernel
theorem dL_areGuests_224 : decode cL_areGuests 224 = .ok (.ifCond .eq 101, 3) := by decide +kernel
theorem dL_areGuests_227 : decode cL_areGuests 227 = .ok (.aload_n 0, 1) := by decide +kernel
theorem dL_areGuests_228 : decode cL_areGuests 228 = .ok (.iload 8, 2) := by decide +kernel
theorem dL_areGuests_230 : decode cL_areGuests 230 = .ok (.iconst 0, 1) := by decide +kernel
theorem dL_areGuests_231 : decode cL_areGuests 231 = .ok (.invokestatic 93, 3) := by decide +kernel
theorem dL_areGuests_234 : decode cL_areGuests 234 = .ok (.istore 9, 2) := by decide +kernel
theorem dL_areGuests_236 : decode cL_areGuests 236 = .ok (.aload_n 0, 1) := by decide +kernel
theorem dL_areGuests_237 : decode cL_areGuests 237 = .ok (.iload 8, 2) := by decide +kernel
theorem dL_areGuests_239 : decode cL_areGuests 239 = .ok (.iconst 1, 1) := by decide +kernel
theorem dL_areGuests_240 : decode cL_areGuests 240 = .ok (.invokestatic 93, 3) := by decide +kernel
theorem dL_areGuests_243 : decode cL_areGuests 243 = .ok (.invokestatic 136, 3) := by decide +kernel
theorem dL_areGuests_246 : decode cL_areGuests 246 = .ok (.aload_n 0, 1) := by decide +kernel
theorem dL_areGuests_247 : decode cL_areGuests 247 = .ok (.iload 9, 2) := by decide +kernel
theorem dL_areGuests_249 : decode cL_areGuests 249 = .ok (.iconst 0, 1) := by decide +kernel
theorem dL_areGuests_250 : decode cL_areGuests 250 = .ok (.invokestatic 90, 3) := by decide +kernel
theorem dL_areGuests_253 : decode cL_areGuests 253 = .ok (.if_icmp .ge 16, 3) := by decide +kernel
theorem dL_areGuests_256 : decode cL_areGuests 256 = .ok (.aload_n 0, 1) := by decide +kernel
theorem dL_areGuests_257 : decode cL_areGuests 257 = .ok (.iload 8, 2) := by decide +kernel
theorem dL_areGuests_259 : decode cL_areGuests 259 = .ok (.iconst 1, 1) := by decide +kernel
theorem dL_areGuests_260 : decode cL_areGuests 260 = .ok (.invokestatic 93, 3) := by decide +kernel
theorem dL_areGuests_263 : decode cL_areGuests 263 = .ok (.invokestatic 136, 3) := by decide +kernel
theorem dL_areGuests_266 : decode cL_areGuests 266 = .ok (.goto 10, 3) := by decide +kernel
theorem dL_areGuests_269 : decode cL_areGuests 269 = .ok (.aload_n 0, 1) := by decide +kernel
theorem dL_areGuests_270 : decode cL_areGuests 270 = .ok (.iload 9, 2) := by decide +kernel
theorem dL_areGuests_272 : decode cL_areGuests 272 = .ok (.iconst 0, 1) := by decide +kernel
theorem dL_areGuests_273 : decode cL_areGuests 273 = .ok (.invokestatic 90, 3) := by decide +kernel
theorem dL_areGuests_276 : decode cL_areGuests 276 = .ok (.istore 10, 2) := by decide +kernel
theorem dL_areGuests_278 : decode cL_areGuests 278 = .ok (.iload 9, 2) := by decide +kernel
theorem dL_areGuests_280 : decode cL_areGuests 280 = .ok (.ifCond .lt 36, 3) := by decide +kernel
theorem dL_areGuests_283 : decode cL_areGuests 283 = .ok (.iload 9, 2) := by decide +kernel
theorem dL_areGuests_285 : decode cL_areGuests 285 = .ok (.iload 6, 2) := by decide +kernel
theorem dL_areGuests_287 : decode cL_areGuests 287 = .ok (.if_icmp .ge 29, 3) := by decide +kernel
theorem dL_areGuests_290 : decode cL_areGuests 290 = .ok (.aload_n 0, 1) := by decide +kernel
theorem dL_areGuests_291 : decode cL_areGuests 291 = .ok (.iload 8, 2) := by decide +kernel
theorem dL_areGuests_293 : decode cL_areGuests 293 = .ok (.iconst 2, 1) := by decide +kernel
theorem dL_areGuests_294 : decode cL_areGuests 294 = .ok (.invokestatic 93, 3) := by decide +kernel
theorem dL_areGuests_297 : decode cL_areGuests 297 = .ok (.ifCond .lt 19, 3) := by decide +kernel
theorem dL_areGuests_300 : decode cL_areGuests 300 = .ok (.aload_n 0, 1) := by decide +kernel
theorem dL_areGuests_301 : decode cL_areGuests 301 = .ok (.iload 8, 2) := by decide +kernel
theorem dL_areGuests_303 : decode cL_areGuests 303 = .ok (.iconst 2, 1) := by decide +kernel
theorem dL_areGuests_304 : decode cL_areGuests 304 = .ok (.invokestatic 93, 3) := by decide +kernel
theorem dL_areGuests_307 : decode cL_areGuests 307 = .ok (.iload 10, 2) := by decide +kernel
theorem dL_areGuests_309 : decode cL_areGuests 309 = .ok (.if_icmp .gt 7, 3) := by decide +kernel
theorem dL_areGuests_312 : decode cL_areGuests 312 = .ok (.iconst 1, 1) := by decide +kernel
theorem dL_areGuests_313 : decode cL_areGuests 313 = .ok (.goto 4, 3) := by decide +kernel
theorem dL_areGuests_316 : decode cL_areGuests 316 = .ok (.iconst 0, 1) := by decide +kernel
theorem dL_areGuests_317 : decode cL_areGuests 317 = .ok (.istore 7, 2) := by decide +kernel
theorem dL_areGuests_319 : decode cL_areGuests 319 = .ok (.iinc 8 1, 3) := by decide +kernel
theorem dL_areGuests_322 : decode cL_areGuests 322 = .ok (.goto (-110), 3) := by decide +kernel
theorem dL_areGuests_325 : decode cL_areGuests 325 = .ok (.iload 7, 2) := by decide +kernel
theorem dL_areGuests_327 : decode cL_areGuests 327 = .ok (.ifCond .eq 105, 3) := by decide +kernel
theorem dL_areGuests_330 : decode cL_areGuests 330 = .ok (.iload_n 1, 1) := by decide +kernel
theorem dL_areGuests_331 : decode cL_areGuests 331 = .ok (.aload_n 0, 1) := by decide +kernel
theorem dL_areGuests_332 : decode cL_areGuests 332 = .ok (.bipush 8, 2) := by decide +kernel
theorem dL_areGuests_334 : decode cL_areGuests 334 = .ok (.invokestatic 85, 3) := by decide +kernel
theorem dL_areGuests_337 : decode cL_areGuests 337 = .ok (.if_icmp .ne 95, 3) := by decide +kernel
theorem dL_areGuests_340 : decode cL_areGuests 340 = .ok (.iload_n 2, 1) := by decide +kernel
theorem dL_areGuests_341 : decode cL_areGuests 341 = .ok (.aload_n 0, 1) := by decide +kernel
theorem dL_areGuests_342 : decode cL_areGuests 342 = .ok (.iconst 2, 1) := by decide +kernel
theorem dL_areGuests_343 : decode cL_areGuests 343 = .ok (.invokestatic 85, 3) := by decide +kernel
theorem dL_areGuests_346 : decode cL_areGuests 346 = .ok (.if_icmp .ne 86, 3) := by decide +kernel
theorem dL_areGuests_349 : decode cL_areGuests 349 = .ok (.iload_n 3, 1) := by decide +kernel
theorem dL_areGuests_350 : decode cL_areGuests 350 = .ok (.aload_n 0, 1) := by decide +kernel
theorem dL_areGuests_351 : decode cL_areGuests 351 = .ok (.iconst 3, 1) := by decide +kernel
theorem dL_areGuests_352 : decode cL_areGuests 352 = .ok (.invokestatic 85, 3) := by decide +kernel
theorem dL_areGuests_355 : decode cL_areGuests 355 = .ok (.if_icmp .ne 77, 3) := by decide +kernel
theorem dL_areGuests_358 : decode cL_areGuests 358 = .ok (.iload 6, 2) := by decide +kernel
theorem dL_areGuests_360 : decode cL_areGuests 360 = .ok (.ifCond .eq 10, 3) := by decide +kernel
theorem dL_areGuests_363 : decode cL_areGuests 363 = .ok (.iload 5, 2) := by decide +kernel
theorem dL_areGuests_365 : decode cL_areGuests 365 = .ok (.bipush 7, 2) := by decide +kernel
theorem dL_areGuests_367 : decode cL_areGuests 367 = .ok (.if_icmp .ne 65, 3) := by decide +kernel
theorem dL_areGuests_370 : decode cL_areGuests 370 = .ok (.iload 6, 2) := by decide +kernel
theorem dL_areGuests_372 : decode cL_areGuests 372 = .ok (.ifCond .eq 12, 3) := by decide +kernel
theorem dL_areGuests_375 : decode cL_areGuests 375 = .ok (.aload_n 0, 1) := by decide +kernel
theorem dL_areGuests_376 : decode cL_areGuests 376 = .ok (.iconst 1, 1) := by decide +kernel
theorem dL_areGuests_377 : decode cL_areGuests 377 = .ok (.invokestatic 85, 3) := by decide +kernel
theorem dL_areGuests_380 : decode cL_areGuests 380 = .ok (.iconst 1, 1) := by decide +kernel
theorem dL_areGuests_381 : decode cL_areGuests 381 = .ok (.if_icmp .ne 16, 3) := by decide +kernel
theorem dL_areGuests_384 : decode cL_areGuests 384 = .ok (.aload_n 0, 1) := by decide +kernel
theorem dL_areGuests_385 : decode cL_areGuests 385 = .ok (.bipush 9, 2) := by decide +kernel
theorem dL_areGuests_387 : decode cL_areGuests 387 = .ok (.invokestatic 85, 3) := by decide +kernel
theorem dL_areGuests_390 : decode cL_areGuests 390 = .ok (.iconst (-1), 1) := by decide +kernel
theorem dL_areGuests_391 : decode cL_areGuests 391 = .ok (.if_icmp .ne 41, 3) := by decide +kernel
theorem dL_areGuests_394 : decode cL_areGuests 394 = .ok (.goto 34, 3) := by decide +kernel
theorem dL_areGuests_397 : decode cL_areGuests 397 = .ok (.iload 4, 2) := by decide +kernel
theorem dL_areGuests_399 : decode cL_areGuests 399 = .ok (.iconst 1, 1) := by decide +kernel
theorem dL_areGuests_400 : decode cL_areGuests 400 = .ok (.aload_n 0, 1) := by decide +kernel
theorem dL_areGuests_401 : decode cL_areGuests 401 = .ok (.bipush 9, 2) := by decide +kernel
theorem dL_areGuests_403 : decode cL_areGuests 403 = .ok (.invokestatic 85, 3) := by decide +kernel
theorem dL_areGuests_406 : decode cL_areGuests 406 = .ok (.ishl, 1) := by decide +kernel
theorem dL_areGuests_407 : decode cL_areGuests 407 = .ok (.ior, 1) := by decide +kernel
theorem dL_areGuests_408 : decode cL_areGuests 408 = .ok (.sipush 255, 3) := by decide +kernel
theorem dL_areGuests_411 : decode cL_areGuests 411 = .ok (.if_icmp .ne 21, 3) := by decide +kernel
theorem dL_areGuests_414 : decode cL_areGuests 414 = .ok (.iload 4, 2) := by decide +kernel
theorem dL_areGuests_416 : decode cL_areGuests 416 = .ok (.aload_n 0, 1) := by decide +kernel
theorem dL_areGuests_417 : decode cL_areGuests 417 = .ok (.bipush 9, 2) := by decide +kernel
theorem dL_areGuests_419 : decode cL_areGuests 419 = .ok (.invokestatic 85, 3) := by decide +kernel
theorem dL_areGuests_422 : decode cL_areGuests 422 = .ok (.ishr, 1) := by decide +kernel
theorem dL_areGuests_423 : decode cL_areGuests 423 = .ok (.iconst 1, 1) := by decide +kernel
theorem dL_areGuests_424 : decode cL_areGuests 424 = .ok (.iand, 1) := by decide +kernel
theorem dL_areGuests_425 : decode cL_areGuests 425 = .ok (.ifCond .ne 7, 3) := by decide +kernel
theorem dL_areGuests_428 : decode cL_areGuests 428 = .ok (.iconst 1, 1) := by decide +kernel
theorem dL_areGuests_429 : decode cL_areGuests 429 = .ok (.goto 4, 3) := by decide +kernel
theorem dL_areGuests_432 : decode cL_areGuests 432 = .ok (.iconst 0, 1) := by decide +kernel
theorem dL_areGuests_433 : decode cL_areGuests 433 = .ok (.ireturn, 1) := by decide +kernel
set_option maxRecDepth 20000 in
theorem ggL_isAsked_X4_deals : GoodIn wsL_isAsked wsX4_deals := goodIn_r _ [6, 7, 241, 242, 243, 244, 245, 246, 247, 248, 249, 250, 251, 252, 253, 254, 255, 256, 257, 258, 259, 260, 261, 262, 263, 264, 265, 266, 267, 268] (by decide +kernel) (by decide +kernel)
set_option maxRecDepth 20000 in
theorem gL_isAsked_X4_deals : GoodIn wsL_isAsked (wsV RL 124 RX4 yX4_deals wsX4_deals) := goodIn_app (goodIn_of _ (by decide +kernel)) ggL_isAsked_X4_deals
set_option maxRecDepth 20000 in
theorem ggL_isAsked_L_worst : GoodIn wsL_isAsked wsL_worst := goodIn_ca (goodIn_ca (goodIn_r _ [11, 12, 13, 14, 15, 16, 17, 18, 5, 19, 20, 21, 22, 23, 7, 24, 25, 26, 27, 28, 29, 30, 31, 32, 33, 34, 35, 36, 37, 38, 39, 40, 41, 42, 43, 44, 45, 46, 47, 48, 49, 50, 51, 52, 53, 54, 55, 56, 57, 58, 59, 60, 61, 62, 63, 64, 65, 66, 67, 68, 69, 70, 71, 241, 242, 243, 244, 245, 246, 247, 248, 249, 250, 251, 252, 253, 254, 255, 256, 257, 258, 259, 260, 261, 262, 263, 264, 269, 270, 271, 265, 266, 267, 268] (by decide +kernel) (by decide +kernel)) (goodIn_sub (fun _ h => List.mem_cons_of_mem _ (List.mem_append_left _ (List.mem_append_left _ (List.mem_append_right _ h)))) (by decide +kernel))) (goodIn_sub (fun _ h => List.mem_cons_of_mem _ (List.mem_append_left _ (List.mem_append_right _ h))) (by decide +kernel))
set_option maxRecDepth 20000 in
theorem gL_isAsked_L_worst : GoodIn wsL_isAsked (va_wsS RL 118 yL_worst wsL_worst) := goodIn_app (goodIn_of _ (by decide +kernel)) ggL_isAsked_L_worst
set_option maxRecDepth 20000 in
theorem ggL_isAsked_L_dealsIf : GoodIn wsL_isAsked wsL_dealsIf := goodIn_ca (goodIn_ca (goodIn_r _ [74, 12, 13, 14, 15, 75, 76, 77, 5, 78, 20, 21, 22, 23, 7, 24, 25, 26, 27, 28, 29, 30, 31, 32, 33, 34, 35, 36, 37, 38, 39, 40, 41, 42, 43, 44, 45, 46, 47, 48, 49, 50, 51, 52, 53, 54, 55, 56, 79, 80, 81, 82, 65, 66, 67, 68, 69, 70, 71, 241, 242, 243, 244, 245, 246, 247, 248, 249, 250, 251, 252, 253, 254, 255, 256, 257, 258, 259, 260, 261, 262, 263, 264, 269, 270, 271, 265, 266, 267, 268] (by decide +kernel) (by decide +kernel)) (goodIn_sub (fun _ h => List.mem_cons_of_mem _ (List.mem_append_left _ (List.mem_append_left _ (List.mem_append_right _ h)))) (by decide +kernel))) (goodIn_sub (fun _ h => List.mem_cons_of_mem _ (List.mem_append_left _ (List.mem_append_right _ h))) (by decide +kernel))
set_option maxRecDepth 20000 in
theorem gL_isAsked_L_dealsIf : GoodIn wsL_isAsked (va_wsS RL 115 yL_dealsIf wsL_dealsIf) := goodIn_app (goodIn_of _ (by decide +kernel)) ggL_isAsked_L_dealsIf
set_option maxRecDepth 20000 in
theorem ggL_isAsked_L_print : GoodIn wsL_isAsked wsL_print := goodIn_ca (goodIn_ca (goodIn_r _ [85, 86, 87, 88, 89, 10, 90, 13, 15, 91, 92, 93, 5, 94, 22, 23, 7, 95, 96, 97, 28, 98, 30, 99, 100, 101, 102, 103, 104, 105, 106, 107, 108, 66, 67, 68, 69, 70, 71, 109, 110, 111, 12, 14, 112, 113, 114, 115, 20, 21, 25, 26, 27, 29, 116, 117, 118, 119, 120, 121, 122, 123, 124, 125, 126, 127, 128, 129, 130, 131, 132, 133, 43, 134, 48, 135, 136, 55, 56, 137, 138, 139, 140, 141, 142, 143, 144, 145, 146, 42, 44, 147, 148, 149, 150, 151, 152, 153, 154, 155, 156, 157, 158, 159, 160, 161, 162, 163, 164, 241, 242, 243, 244, 245, 246, 247, 248, 249, 250, 251, 252, 253, 254, 255, 256, 257, 258, 259, 260, 261, 262, 263, 264, 265, 266, 267, 268] (by decide +kernel) (by decide +kernel)) (goodIn_sub (fun _ h => List.mem_cons_of_mem _ (List.mem_append_left _ (List.mem_append_right _ h))) (by decide +kernel))) (goodIn_sub (fun _ h => List.mem_cons_of_mem _ (List.mem_append_left _ (List.mem_append_left _ (List.mem_append_right _ h)))) (by decide +kernel))
set_option maxRecDepth 20000 in
theorem gL_isAsked_L_print : GoodIn wsL_isAsked (va_wsS RL 95 yL_print wsL_print) := goodIn_app (goodIn_of _ (by decide +kernel)) ggL_isAsked_L_print
set_option maxRecDepth 20000 in
theorem ggL_isAsked_L_value : GoodIn wsL_isAsked wsL_value := goodIn_ca (goodIn_r _ [90, 13, 15, 91, 92, 93, 5, 94, 22, 23, 7, 95, 96, 97, 28, 98, 30, 99, 100, 101, 102, 103, 104, 105, 106, 107, 108, 66, 67, 68, 69, 70, 71, 241, 242, 243, 244, 245, 246, 247, 248, 249, 250, 251, 252, 253, 254, 255, 256, 257, 258, 259, 260, 261, 262, 263, 264] (by decide +kernel) (by decide +kernel)) (goodIn_sub (fun _ h => List.mem_cons_of_mem _ (List.mem_append_left _ (List.mem_append_right _ h))) (by decide +kernel))
set_option maxRecDepth 20000 in
theorem gL_isAsked_L_value : GoodIn wsL_isAsked (va_wsS RL 85 yL_value wsL_value) := goodIn_app (goodIn_of _ (by decide +kernel)) ggL_isAsked_L_value
set_option maxRecDepth 20000 in
theorem ggL_isAsked_L_ask : GoodIn wsL_isAsked wsL_ask := goodIn_ca (goodIn_ca (goodIn_ca (goodIn_r _ [167, 12, 13, 168, 14, 15, 1, 169, 170, 171, 5, 172, 20, 21, 22, 23, 173, 174, 7, 25, 26, 27, 28, 29, 30, 31, 32, 33, 175, 176, 177, 178, 100, 179, 180, 181, 182, 183, 99, 106, 184, 185, 186, 187, 188, 189, 190, 191, 192, 193, 194, 195, 196, 197, 198, 105, 107, 102, 103, 104, 151, 101, 120, 130, 163, 164, 121, 199, 200, 201, 51, 52, 53, 202, 203, 204, 205, 206, 207, 208, 43, 209, 49, 210, 48, 135, 141, 211, 45, 46, 47, 50, 212, 213, 214, 215, 147, 148, 149, 150, 108, 66, 67, 68, 69, 70, 71, 122, 123, 124, 125, 216, 217, 218, 219, 146, 42, 44, 220, 221, 222, 223, 224, 136, 55, 56, 225, 226, 227, 228, 229, 241, 242, 243, 244, 245, 246, 247, 248, 249, 250, 251, 252, 253, 254, 255, 256, 257, 258, 259, 260, 261, 262, 263, 264, 265, 266, 267, 268] (by decide +kernel) (by decide +kernel)) (goodIn_sub (fun _ h => List.mem_cons_of_mem _ (List.mem_append_left _ (List.mem_append_left _ (List.mem_append_right _ h)))) (by decide +kernel))) (goodIn_sub (fun _ h => List.mem_cons_of_mem _ (List.mem_append_left _ (List.mem_append_right _ h))) (by decide +kernel))) (goodIn_sub (fun _ h => List.mem_cons_of_mem _ (List.mem_append_right _ h)) (by decide +kernel))
set_option maxRecDepth 20000 in
theorem gL_isAsked_L_ask : GoodIn wsL_isAsked (va_wsS RL 102 yL_ask wsL_ask) := goodIn_app (goodIn_of _ (by decide +kernel)) ggL_isAsked_L_ask
set_option maxRecDepth 20000 in
theorem ggL_isAsked_L_question : GoodIn wsL_isAsked wsL_question := goodIn_ca (goodIn_ca (goodIn_r _ [154, 12, 13, 14, 15, 155, 156, 157, 5, 158, 20, 21, 22, 23, 7, 159, 160, 161, 28, 162, 130, 163, 164, 241, 242, 243, 244, 245, 246, 247, 248, 249, 250, 251, 252, 253, 254, 255, 256, 257, 258, 259, 260, 261, 262, 263, 264] (by decide +kernel) (by decide +kernel)) (goodIn_sub (fun _ h => List.mem_cons_of_mem _ (List.mem_append_left _ (List.mem_append_left _ (List.mem_append_right _ h)))) (by decide +kernel))) (goodIn_sub (fun _ h => List.mem_cons_of_mem _ (List.mem_append_left _ (List.mem_append_right _ h))) (by decide +kernel))
set_option maxRecDepth 20000 in
theorem gL_isAsked_L_question : GoodIn wsL_isAsked (va_wsS RL 93 yL_question wsL_question) := goodIn_app (goodIn_of _ (by decide +kernel)) ggL_isAsked_L_question
set_option maxRecDepth 20000 in
theorem ggL_isAsked_L_undo : GoodIn wsL_isAsked wsL_undo := goodIn_ca (goodIn_r _ [232, 168, 1, 233, 234, 235, 5, 236, 173, 174, 189, 237, 238, 239, 240, 7, 191, 192, 193, 194, 190, 195, 196, 197, 28, 198, 105, 30, 99, 107, 102, 103, 104, 106, 179, 151, 101, 120, 100, 130, 163, 164, 121, 199, 200, 201, 51, 52, 53, 202, 203, 204, 205, 206, 207, 208, 43, 209, 49, 210, 48, 135, 141, 211, 45, 46, 47, 50, 241, 242, 243, 244, 245, 246, 247, 248, 249, 250, 251, 252, 253, 254, 255, 256, 257, 258, 259, 260, 261, 262, 263, 264, 265, 266, 267, 268] (by decide +kernel) (by decide +kernel)) (goodIn_sub (fun _ h => List.mem_cons_of_mem _ (List.mem_append_right _ h)) (by decide +kernel))
set_option maxRecDepth 20000 in
theorem gL_isAsked_L_undo : GoodIn wsL_isAsked (va_wsS RL 139 yL_undo wsL_undo) := goodIn_app (goodIn_of _ (by decide +kernel)) ggL_isAsked_L_undo
theorem dL_isAsked_0 : decode cL_isAsked 0 = .ok (.aload_n 0, 1) := by decide +kernel
theorem dL_isAsked_1 : decode cL_isAsked 1 = .ok (.invokevirtual 124, 3) := by decide +kernel
theorem dL_isAsked_4 : decode cL_isAsked 4 = .ok (.istore 4, 2) := by decide +kernel
theorem dL_isAsked_6 : decode cL_isAsked 6 = .ok (.aload_n 0, 1) := by decide +kernel
theorem dL_isAsked_7 : decode cL_isAsked 7 = .ok (.iload_n 1, 1) := by decide +kernel
theorem dL_isAsked_8 : decode cL_isAsked 8 = .ok (.iload_n 2, 1) := by decide +kernel
theorem dL_isAsked_9 : decode cL_isAsked 9 = .ok (.invokestatic 118, 3) := by decide +kernel
theorem dL_isAsked_12 : decode cL_isAsked 12 = .ok (.istore 5, 2) := by decide +kernel
theorem dL_isAsked_14 : decode cL_isAsked 14 = .ok (.iconst 0, 1) := by decide +kernel
theorem dL_isAsked_15 : decode cL_isAsked 15 = .ok (.istore 6, 2) := by decide +kernel
theorem dL_isAsked_17 : decode cL_isAsked 17 = .ok (.iconst 1, 1) := by decide +kernel
theorem dL_isAsked_18 : decode cL_isAsked 18 = .ok (.istore 7, 2) := by decide +kernel
theorem dL_isAsked_20 : decode cL_isAsked 20 = .ok (.iconst 0, 1) := by decide +kernel
theorem dL_isAsked_21 : decode cL_isAsked 21 = .ok (.istore 8, 2) := by decide +kernel
theorem dL_isAsked_23 : decode cL_isAsked 23 = .ok (.iload 8, 2) := by decide +kernel
theorem dL_isAsked_25 : decode cL_isAsked 25 = .ok (.bipush 9, 2) := by decide +kernel
theorem dL_isAsked_27 : decode cL_isAsked 27 = .ok (.if_icmp .ge 59, 3) := by decide +kernel
theorem dL_isAsked_30 : decode cL_isAsked 30 = .ok (.iload 7, 2) := by decide +kernel
theorem dL_isAsked_32 : decode cL_isAsked 32 = .ok (.ifCond .eq 54, 3) := by decide +kernel
theorem dL_isAsked_35 : decode cL_isAsked 35 = .ok (.aload_n 0, 1) := by decide +kernel
theorem dL_isAsked_36 : decode cL_isAsked 36 = .ok (.iload_n 1, 1) := by decide +kernel
theorem dL_isAsked_37 : decode cL_isAsked 37 = .ok (.iload_n 2, 1) := by decide +kernel
theorem dL_isAsked_38 : decode cL_isAsked 38 = .ok (.iload 8, 2) := by decide +kernel
theorem dL_isAsked_40 : decode cL_isAsked 40 = .ok (.invokestatic 115, 3) := by decide +kernel
theorem dL_isAsked_43 : decode cL_isAsked 43 = .ok (.istore 9, 2) := by decide +kernel
theorem dL_isAsked_45 : decode cL_isAsked 45 = .ok (.iload 9, 2) := by decide +kernel
theorem dL_isAsked_47 : decode cL_isAsked 47 = .ok (.iload 6, 2) := by decide +kernel
theorem dL_isAsked_49 : decode cL_isAsked 49 = .ok (.if_icmp .le 8, 3) := by decide +kernel
theorem dL_isAsked_52 : decode cL_isAsked 52 = .ok (.iload 9, 2) := by decide +kernel
theorem dL_isAsked_54 : decode cL_isAsked 54 = .ok (.goto 5, 3) := by decide +kernel
theorem dL_isAsked_57 : decode cL_isAsked 57 = .ok (.iload 6, 2) := by decide +kernel
theorem dL_isAsked_59 : decode cL_isAsked 59 = .ok (.istore 6, 2) := by decide +kernel
theorem dL_isAsked_61 : decode cL_isAsked 61 = .ok (.iload 9, 2) := by decide +kernel
theorem dL_isAsked_63 : decode cL_isAsked 63 = .ok (.ifCond .lt 14, 3) := by decide +kernel
theorem dL_isAsked_66 : decode cL_isAsked 66 = .ok (.iload 9, 2) := by decide +kernel
theorem dL_isAsked_68 : decode cL_isAsked 68 = .ok (.iload 4, 2) := by decide +kernel
theorem dL_isAsked_70 : decode cL_isAsked 70 = .ok (.if_icmp .gt 7, 3) := by decide +kernel
theorem dL_isAsked_73 : decode cL_isAsked 73 = .ok (.iconst 1, 1) := by decide +kernel
theorem dL_isAsked_74 : decode cL_isAsked 74 = .ok (.goto 4, 3) := by decide +kernel
theorem dL_isAsked_77 : decode cL_isAsked 77 = .ok (.iconst 0, 1) := by decide +kernel
theorem dL_isAsked_78 : decode cL_isAsked 78 = .ok (.istore 7, 2) := by decide +kernel
theorem dL_isAsked_80 : decode cL_isAsked 80 = .ok (.iinc 8 1, 3) := by decide +kernel
theorem dL_isAsked_83 : decode cL_isAsked 83 = .ok (.goto (-60), 3) := by decide +kernel
theorem dL_isAsked_86 : decode cL_isAsked 86 = .ok (.iload 7, 2) := by decide +kernel
theorem dL_isAsked_88 : decode cL_isAsked 88 = .ok (.ifCond .eq 14, 3) := by decide +kernel
theorem dL_isAsked_91 : decode cL_isAsked 91 = .ok (.iload 5, 2) := by decide +kernel
theorem dL_isAsked_93 : decode cL_isAsked 93 = .ok (.iload 6, 2) := by decide +kernel
theorem dL_isAsked_95 : decode cL_isAsked 95 = .ok (.if_icmp .ne 7, 3) := by decide +kernel
theorem dL_isAsked_98 : decode cL_isAsked 98 = .ok (.iconst 1, 1) := by decide +kernel
theorem dL_isAsked_99 : decode cL_isAsked 99 = .ok (.goto 4, 3) := by decide +kernel
theorem dL_isAsked_102 : decode cL_isAsked 102 = .ok (.iconst 0, 1) := by decide +kernel
theorem dL_isAsked_103 : decode cL_isAsked 103 = .ok (.istore 7, 2) := by decide +kernel
theorem dL_isAsked_105 : decode cL_isAsked 105 = .ok (.aload_n 0, 1) := by decide +kernel
theorem dL_isAsked_106 : decode cL_isAsked 106 = .ok (.invokestatic 95, 3) := by decide +kernel
theorem dL_isAsked_109 : decode cL_isAsked 109 = .ok (.lstore 8, 2) := by decide +kernel
theorem dL_isAsked_111 : decode cL_isAsked 111 = .ok (.aload_n 0, 1) := by decide +kernel
theorem dL_isAsked_112 : decode cL_isAsked 112 = .ok (.iconst 2, 1) := by decide +kernel
theorem dL_isAsked_113 : decode cL_isAsked 113 = .ok (.invokestatic 85, 3) := by decide +kernel
theorem dL_isAsked_116 : decode cL_isAsked 116 = .ok (.istore 10, 2) := by decide +kernel
theorem dL_isAsked_118 : decode cL_isAsked 118 = .ok (.aload_n 0, 1) := by decide +kernel
theorem dL_isAsked_119 : decode cL_isAsked 119 = .ok (.iload_n 1, 1) := by decide +kernel
theorem dL_isAsked_120 : decode cL_isAsked 120 = .ok (.iload_n 2, 1) := by decide +kernel
theorem dL_isAsked_121 : decode cL_isAsked 121 = .ok (.iload_n 3, 1) := by decide +kernel
theorem dL_isAsked_122 : decode cL_isAsked 122 = .ok (.invokestatic 102, 3) := by decide +kernel
theorem dL_isAsked_125 : decode cL_isAsked 125 = .ok (.istore 11, 2) := by decide +kernel
theorem dL_isAsked_127 : decode cL_isAsked 127 = .ok (.iload 11, 2) := by decide +kernel
theorem dL_isAsked_129 : decode cL_isAsked 129 = .ok (.ldc 20, 2) := by decide +kernel
theorem dL_isAsked_131 : decode cL_isAsked 131 = .ok (.if_icmp .ne 24, 3) := by decide +kernel
theorem dL_isAsked_134 : decode cL_isAsked 134 = .ok (.iload 7, 2) := by decide +kernel
theorem dL_isAsked_136 : decode cL_isAsked 136 = .ok (.ifCond .eq 17, 3) := by decide +kernel
theorem dL_isAsked_139 : decode cL_isAsked 139 = .ok (.aload_n 0, 1) := by decide +kernel
theorem dL_isAsked_140 : decode cL_isAsked 140 = .ok (.invokestatic 95, 3) := by decide +kernel
theorem dL_isAsked_143 : decode cL_isAsked 143 = .ok (.lload 8, 2) := by decide +kernel
theorem dL_isAsked_145 : decode cL_isAsked 145 = .ok (.lcmp, 1) := by decide +kernel
theorem dL_isAsked_146 : decode cL_isAsked 146 = .ok (.ifCond .ne 7, 3) := by decide +kernel
theorem dL_isAsked_149 : decode cL_isAsked 149 = .ok (.iconst 1, 1) := by decide +kernel
theorem dL_isAsked_150 : decode cL_isAsked 150 = .ok (.goto 4, 3) := by decide +kernel
theorem dL_isAsked_153 : decode cL_isAsked 153 = .ok (.iconst 0, 1) := by decide +kernel
theorem dL_isAsked_154 : decode cL_isAsked 154 = .ok (.ireturn, 1) := by decide +kernel
theorem dL_isAsked_155 : decode cL_isAsked 155 = .ok (.aload_n 0, 1) := by decide +kernel
theorem dL_isAsked_156 : decode cL_isAsked 156 = .ok (.invokevirtual 124, 3) := by decide +kernel
theorem dL_isAsked_159 : decode cL_isAsked 159 = .ok (.istore 12, 2) := by decide +kernel
theorem dL_isAsked_161 : decode cL_isAsked 161 = .ok (.iload 7, 2) := by decide +kernel
theorem dL_isAsked_163 : decode cL_isAsked 163 = .ok (.ifCond .eq 72, 3) := by decide +kernel
theorem dL_isAsked_166 : decode cL_isAsked 166 = .ok (.aload_n 0, 1) := by decide +kernel
theorem dL_isAsked_167 : decode cL_isAsked 167 = .ok (.iconst 2, 1) := by decide +kernel
theorem dL_isAsked_168 : decode cL_isAsked 168 = .ok (.invokestatic 85, 3) := by decide +kernel
theorem dL_isAsked_171 : decode cL_isAsked 171 = .ok (.iload 10, 2) := by decide +kernel
theorem dL_isAsked_173 : decode cL_isAsked 173 = .ok (.iconst 1, 1) := by decide +kernel
theorem dL_isAsked_174 : decode cL_isAsked 174 = .ok (.iadd, 1) := by decide +kernel
theorem dL_isAsked_175 : decode cL_isAsked 175 = .ok (.if_icmp .ne 60, 3) := by decide +kernel
theorem dL_isAsked_178 : decode cL_isAsked 178 = .ok (.aload_n 0, 1) := by decide +kernel
theorem dL_isAsked_179 : decode cL_isAsked 179 = .ok (.iload 10, 2) := by decide +kernel
theorem dL_isAsked_181 : decode cL_isAsked 181 = .ok (.iconst 0, 1) := by decide +kernel
theorem dL_isAsked_182 : decode cL_isAsked 182 = .ok (.invokestatic 93, 3) := by decide +kernel
theorem dL_isAsked_185 : decode cL_isAsked 185 = .ok (.iload_n 1, 1) := by decide +kernel
theorem dL_isAsked_186 : decode cL_isAsked 186 = .ok (.if_icmp .ne 49, 3) := by decide +kernel
theorem dL_isAsked_189 : decode cL_isAsked 189 = .ok (.aload_n 0, 1) := by decide +kernel
theorem dL_isAsked_190 : decode cL_isAsked 190 = .ok (.iload 10, 2) := by decide +kernel
theorem dL_isAsked_192 : decode cL_isAsked 192 = .ok (.iconst 1, 1) := by decide +kernel
theorem dL_isAsked_193 : decode cL_isAsked 193 = .ok (.invokestatic 93, 3) := by decide +kernel
theorem dL_isAsked_196 : decode cL_isAsked 196 = .ok (.iload_n 2, 1) := by decide +kernel
theorem dL_isAsked_197 : decode cL_isAsked 197 = .ok (.if_icmp .ne 38, 3) := by decide +kernel
theorem dL_isAsked_200 : decode cL_isAsked 200 = .ok (.aload_n 0, 1) := by decide +kernel
theorem dL_isAsked_201 : decode cL_isAsked 201 = .ok (.iload 10, 2) := by decide +kernel
theorem dL_isAsked_203 : decode cL_isAsked 203 = .ok (.iconst 2, 1) := by decide +kernel
theorem dL_isAsked_204 : decode cL_isAsked 204 = .ok (.invokestatic 93, 3) := by decide +kernel
theorem dL_isAsked_207 : decode cL_isAsked 207 = .ok (.iload 11, 2) := by decide +kernel
theorem dL_isAsked_209 : decode cL_isAsked 209 = .ok (.if_icmp .ne 26, 3) := by decide +kernel
theorem dL_isAsked_212 : decode cL_isAsked 212 = .ok (.iload 12, 2) := by decide +kernel
theorem dL_isAsked_214 : decode cL_isAsked 214 = .ok (.ifCond .le 21, 3) := by decide +kernel
theorem dL_isAsked_217 : decode cL_isAsked 217 = .ok (.iload 12, 2) := by decide +kernel
theorem dL_isAsked_219 : decode cL_isAsked 219 = .ok (.iload 5, 2) := by decide +kernel
theorem dL_isAsked_221 : decode cL_isAsked 221 = .ok (.if_icmp .gt 14, 3) := by decide +kernel
theorem dL_isAsked_224 : decode cL_isAsked 224 = .ok (.aload_n 0, 1) := by decide +kernel
theorem dL_isAsked_225 : decode cL_isAsked 225 = .ok (.invokestatic 139, 3) := by decide +kernel
theorem dL_isAsked_228 : decode cL_isAsked 228 = .ok (.ifCond .lt 7, 3) := by decide +kernel
theorem dL_isAsked_231 : decode cL_isAsked 231 = .ok (.iconst 1, 1) := by decide +kernel
theorem dL_isAsked_232 : decode cL_isAsked 232 = .ok (.goto 4, 3) := by decide +kernel
theorem dL_isAsked_235 : decode cL_isAsked 235 = .ok (.iconst 0, 1) := by decide +kernel
theorem dL_isAsked_236 : decode cL_isAsked 236 = .ok (.istore 7, 2) := by decide +kernel
theorem dL_isAsked_238 : decode cL_isAsked 238 = .ok (.iload 7, 2) := by decide +kernel
theorem dL_isAsked_240 : decode cL_isAsked 240 = .ok (.ifCond .eq 30, 3) := by decide +kernel
theorem dL_isAsked_243 : decode cL_isAsked 243 = .ok (.aload_n 0, 1) := by decide +kernel
theorem dL_isAsked_244 : decode cL_isAsked 244 = .ok (.iload_n 1, 1) := by decide +kernel
theorem dL_isAsked_245 : decode cL_isAsked 245 = .ok (.iload_n 2, 1) := by decide +kernel
theorem dL_isAsked_246 : decode cL_isAsked 246 = .ok (.iload 11, 2) := by decide +kernel
theorem dL_isAsked_248 : decode cL_isAsked 248 = .ok (.invokestatic 115, 3) := by decide +kernel
theorem dL_isAsked_251 : decode cL_isAsked 251 = .ok (.iload 12, 2) := by decide +kernel
theorem dL_isAsked_253 : decode cL_isAsked 253 = .ok (.if_icmp .ne 17, 3) := by decide +kernel
theorem dL_isAsked_256 : decode cL_isAsked 256 = .ok (.aload_n 0, 1) := by decide +kernel
theorem dL_isAsked_257 : decode cL_isAsked 257 = .ok (.invokestatic 95, 3) := by decide +kernel
theorem dL_isAsked_260 : decode cL_isAsked 260 = .ok (.lload 8, 2) := by decide +kernel
theorem dL_isAsked_262 : decode cL_isAsked 262 = .ok (.lcmp, 1) := by decide +kernel
theorem dL_isAsked_263 : decode cL_isAsked 263 = .ok (.ifCond .ne 7, 3) := by decide +kernel
theorem dL_isAsked_266 : decode cL_isAsked 266 = .ok (.iconst 1, 1) := by decide +kernel
theorem dL_isAsked_267 : decode cL_isAsked 267 = .ok (.goto 4, 3) := by decide +kernel
theorem dL_isAsked_270 : decode cL_isAsked 270 = .ok (.iconst 0, 1) := by decide +kernel
theorem dL_isAsked_271 : decode cL_isAsked 271 = .ok (.ireturn, 1) := by decide +kernel
set_option maxRecDepth 20000 in
theorem ggL_isBest_L_bestCards : GoodIn wsL_isBest wsL_bestCards := goodIn_ca (goodIn_r _ [4, 5, 6, 7, 8, 9, 10, 11, 12, 13, 14, 15, 16, 17, 18, 19, 20, 21, 22, 23, 24, 25, 26, 27, 28, 29, 30, 31, 32, 33, 34, 35, 36, 37, 38, 39, 40, 41, 42, 43, 44, 45, 46, 47, 48, 49, 50, 51, 52, 53, 54, 55, 56, 57, 58, 59, 60, 61, 62, 63, 82, 83, 84, 85, 86, 87, 88, 89, 90, 91, 92, 93, 94, 95, 96, 97, 98, 99, 100, 101, 102, 103, 104, 105, 106, 107, 108, 109, 110, 111, 112] (by decide +kernel) (by decide +kernel)) (goodIn_sub (fun _ h => List.mem_cons_of_mem _ (List.mem_append_left _ (List.mem_append_right _ h))) (by decide +kernel))
set_option maxRecDepth 20000 in
theorem gL_isBest_L_bestCards : GoodIn wsL_isBest (va_wsS RL 120 yL_bestCards wsL_bestCards) := goodIn_app (goodIn_of _ (by decide +kernel)) ggL_isBest_L_bestCards
set_option maxRecDepth 20000 in
theorem ggL_isBest_L_worst : GoodIn wsL_isBest wsL_worst := goodIn_ca (goodIn_ca (goodIn_r _ [66, 5, 67, 6, 68, 69, 70, 71, 10, 72, 12, 13, 73, 74, 14, 15, 16, 17, 18, 19, 20, 21, 75, 76, 77, 22, 23, 24, 25, 26, 27, 28, 29, 30, 31, 32, 33, 34, 35, 36, 37, 38, 39, 40, 41, 42, 43, 44, 78, 50, 51, 52, 53, 54, 55, 56, 57, 58, 59, 60, 61, 62, 63, 82, 83, 84, 85, 86, 87, 88, 89, 90, 91, 92, 93, 94, 95, 96, 97, 98, 99, 100, 101, 102, 103, 104, 105, 106, 107, 108, 109, 110, 111, 112] (by decide +kernel) (by decide +kernel)) (goodIn_sub (fun _ h => List.mem_cons_of_mem _ (List.mem_append_left _ (List.mem_append_right _ h))) (by decide +kernel))) (goodIn_sub (fun _ h => List.mem_cons_of_mem _ (List.mem_append_right _ h)) (by decide +kernel))
set_option maxRecDepth 20000 in
theorem gL_isBest_L_worst : GoodIn wsL_isBest (va_wsS RL 118 yL_worst wsL_worst) := goodIn_app (goodIn_of _ (by decide +kernel)) ggL_isBest_L_worst
set_option maxRecDepth 20000 in
theorem ggL_isBest_L_ones : GoodIn wsL_isBest wsL_ones := goodIn_r _ [81] (by decide +kernel) (by decide +kernel)
set_option maxRecDepth 20000 in
theorem gL_isBest_L_ones : GoodIn wsL_isBest (va_wsS RL 136 yL_ones wsL_ones) := goodIn_app (goodIn_of _ (by decide +kernel)) ggL_isBest_L_ones
theorem dL_isBest_0 : decode cL_isBest 0 = .ok (.aload_n 0, 1) := by decide +kernel
theorem dL_isBest_1 : decode cL_isBest 1 = .ok (.iload_n 1, 1) := by decide +kernel
theorem dL_isBest_2 : decode cL_isBest 2 = .ok (.invokestatic 120, 3) := by decide +kernel
theorem dL_isBest_5 : decode cL_isBest 5 = .ok (.istore_n 2, 1) := by decide +kernel
theorem dL_isBest_6 : decode cL_isBest 6 = .ok (.aload_n 0, 1) := by decide +kernel
theorem dL_isBest_7 : decode cL_isBest 7 = .ok (.iload_n 1, 1) := by decide +kernel
theorem dL_isBest_8 : decode cL_isBest 8 = .ok (.iload_n 2, 1) := by decide +kernel
theorem dL_isBest_9 : decode cL_isBest 9 = .ok (.invokestatic 118, 3) := by decide +kernel
theorem dL_isBest_12 : decode cL_isBest 12 = .ok (.istore_n 3, 1) := by decide +kernel
theorem dL_isBest_13 : decode cL_isBest 13 = .ok (.iload_n 2, 1) := by decide +kernel
theorem dL_isBest_14 : decode cL_isBest 14 = .ok (.invokestatic 136, 3) := by decide +kernel
theorem dL_isBest_17 : decode cL_isBest 17 = .ok (.iconst 1, 1) := by decide +kernel
theorem dL_isBest_18 : decode cL_isBest 18 = .ok (.if_icmp .eq 11, 3) := by decide +kernel
theorem dL_isBest_21 : decode cL_isBest 21 = .ok (.iload_n 2, 1) := by decide +kernel
theorem dL_isBest_22 : decode cL_isBest 22 = .ok (.invokestatic 136, 3) := by decide +kernel
theorem dL_isBest_25 : decode cL_isBest 25 = .ok (.iconst 2, 1) := by decide +kernel
theorem dL_isBest_26 : decode cL_isBest 26 = .ok (.if_icmp .ne 7, 3) := by decide +kernel
theorem dL_isBest_29 : decode cL_isBest 29 = .ok (.iconst 1, 1) := by decide +kernel
theorem dL_isBest_30 : decode cL_isBest 30 = .ok (.goto 4, 3) := by decide +kernel
theorem dL_isBest_33 : decode cL_isBest 33 = .ok (.iconst 0, 1) := by decide +kernel
theorem dL_isBest_34 : decode cL_isBest 34 = .ok (.istore 4, 2) := by decide +kernel
theorem dL_isBest_36 : decode cL_isBest 36 = .ok (.iconst 0, 1) := by decide +kernel
theorem dL_isBest_37 : decode cL_isBest 37 = .ok (.istore 5, 2) := by decide +kernel
theorem dL_isBest_39 : decode cL_isBest 39 = .ok (.iload 5, 2) := by decide +kernel
theorem dL_isBest_41 : decode cL_isBest 41 = .ok (.bipush 8, 2) := by decide +kernel
theorem dL_isBest_43 : decode cL_isBest 43 = .ok (.if_icmp .ge 79, 3) := by decide +kernel
theorem dL_isBest_46 : decode cL_isBest 46 = .ok (.iload 4, 2) := by decide +kernel
theorem dL_isBest_48 : decode cL_isBest 48 = .ok (.ifCond .eq 74, 3) := by decide +kernel
theorem dL_isBest_51 : decode cL_isBest 51 = .ok (.aload_n 0, 1) := by decide +kernel
theorem dL_isBest_52 : decode cL_isBest 52 = .ok (.iload_n 1, 1) := by decide +kernel
theorem dL_isBest_53 : decode cL_isBest 53 = .ok (.iconst 1, 1) := by decide +kernel
theorem dL_isBest_54 : decode cL_isBest 54 = .ok (.iload 5, 2) := by decide +kernel
theorem dL_isBest_56 : decode cL_isBest 56 = .ok (.ishl, 1) := by decide +kernel
theorem dL_isBest_57 : decode cL_isBest 57 = .ok (.invokestatic 118, 3) := by decide +kernel
theorem dL_isBest_60 : decode cL_isBest 60 = .ok (.istore 6, 2) := by decide +kernel
theorem dL_isBest_62 : decode cL_isBest 62 = .ok (.aload_n 0, 1) := by decide +kernel
theorem dL_isBest_63 : decode cL_isBest 63 = .ok (.iload_n 1, 1) := by decide +kernel
theorem dL_isBest_64 : decode cL_isBest 64 = .ok (.iconst 1, 1) := by decide +kernel
theorem dL_isBest_65 : decode cL_isBest 65 = .ok (.iload 5, 2) := by decide +kernel
theorem dL_isBest_67 : decode cL_isBest 67 = .ok (.ishl, 1) := by decide +kernel
theorem dL_isBest_68 : decode cL_isBest 68 = .ok (.iconst 1, 1) := by decide +kernel
theorem dL_isBest_69 : decode cL_isBest 69 = .ok (.iload 5, 2) := by decide +kernel
theorem dL_isBest_71 : decode cL_isBest 71 = .ok (.iconst 3, 1) := by decide +kernel
theorem dL_isBest_72 : decode cL_isBest 72 = .ok (.iadd, 1) := by decide +kernel
theorem dL_isBest_73 : decode cL_isBest 73 = .ok (.bipush 8, 2) := by decide +kernel
theorem dL_isBest_75 : decode cL_isBest 75 = .ok (.irem, 1) := by decide +kernel
theorem dL_isBest_76 : decode cL_isBest 76 = .ok (.ishl, 1) := by decide +kernel
theorem dL_isBest_77 : decode cL_isBest 77 = .ok (.ior, 1) := by decide +kernel
theorem dL_isBest_78 : decode cL_isBest 78 = .ok (.invokestatic 118, 3) := by decide +kernel
theorem dL_isBest_81 : decode cL_isBest 81 = .ok (.istore 7, 2) := by decide +kernel
theorem dL_isBest_83 : decode cL_isBest 83 = .ok (.iload 6, 2) := by decide +kernel
theorem dL_isBest_85 : decode cL_isBest 85 = .ok (.iload_n 3, 1) := by decide +kernel
theorem dL_isBest_86 : decode cL_isBest 86 = .ok (.if_icmp .lt 27, 3) := by decide +kernel
theorem dL_isBest_89 : decode cL_isBest 89 = .ok (.iload 6, 2) := by decide +kernel
theorem dL_isBest_91 : decode cL_isBest 91 = .ok (.iload_n 3, 1) := by decide +kernel
theorem dL_isBest_92 : decode cL_isBest 92 = .ok (.if_icmp .gt 11, 3) := by decide +kernel
theorem dL_isBest_95 : decode cL_isBest 95 = .ok (.iconst 1, 1) := by decide +kernel
theorem dL_isBest_96 : decode cL_isBest 96 = .ok (.iload 5, 2) := by decide +kernel
theorem dL_isBest_98 : decode cL_isBest 98 = .ok (.ishl, 1) := by decide +kernel
theorem dL_isBest_99 : decode cL_isBest 99 = .ok (.iload_n 2, 1) := by decide +kernel
theorem dL_isBest_100 : decode cL_isBest 100 = .ok (.if_icmp .lt 13, 3) := by decide +kernel
theorem dL_isBest_103 : decode cL_isBest 103 = .ok (.iload 7, 2) := by decide +kernel
theorem dL_isBest_105 : decode cL_isBest 105 = .ok (.iload_n 3, 1) := by decide +kernel
theorem dL_isBest_106 : decode cL_isBest 106 = .ok (.if_icmp .lt 7, 3) := by decide +kernel
theorem dL_isBest_109 : decode cL_isBest 109 = .ok (.iconst 1, 1) := by decide +kernel
theorem dL_isBest_110 : decode cL_isBest 110 = .ok (.goto 4, 3) := by decide +kernel
theorem dL_isBest_113 : decode cL_isBest 113 = .ok (.iconst 0, 1) := by decide +kernel
theorem dL_isBest_114 : decode cL_isBest 114 = .ok (.istore 4, 2) := by decide +kernel
theorem dL_isBest_116 : decode cL_isBest 116 = .ok (.iinc 5 1, 3) := by decide +kernel
theorem dL_isBest_119 : decode cL_isBest 119 = .ok (.goto (-80), 3) := by decide +kernel
theorem dL_isBest_122 : decode cL_isBest 122 = .ok (.iload 4, 2) := by decide +kernel
theorem dL_isBest_124 : decode cL_isBest 124 = .ok (.ireturn, 1) := by decide +kernel
set_option maxRecDepth 20000 in
theorem ggL_isProved_L_print : GoodIn wsL_isProved wsL_print := goodIn_ca (goodIn_ca (goodIn_r _ [5, 6, 7, 8, 9, 4, 10, 11, 12, 13, 14, 15, 16, 17, 18, 19, 20, 21, 22, 23, 24, 25, 26, 27, 28, 29, 30, 31, 32, 33, 34, 35, 36, 37, 38, 39, 40, 41, 42, 43, 44, 45, 46, 47, 48, 49, 50, 51, 52, 53, 54, 55, 56, 57, 58, 59, 60, 61, 62, 63, 64, 65, 66, 67, 68, 69, 70, 71, 72, 73, 74, 75, 76, 77, 78, 79, 80, 81, 82, 83, 84, 85, 86, 87, 88, 89, 90, 91, 92, 93, 94, 95, 96, 97, 98, 99, 100, 101, 102, 103, 104, 105, 106, 107, 108, 109, 110, 111, 112, 224, 225, 226, 227, 228, 229, 230, 231, 232, 233, 234, 235, 236, 237, 238, 239, 240, 241, 242, 243, 244, 245, 246, 247, 248, 249, 250, 251] (by decide +kernel) (by decide +kernel)) (goodIn_sub (fun _ h => List.mem_cons_of_mem _ (List.mem_append_left _ (List.mem_append_left _ (List.mem_append_right _ h)))) (by decide +kernel))) (goodIn_sub (fun _ h => List.mem_cons_of_mem _ (List.mem_append_left _ (List.mem_append_right _ h))) (by decide +kernel))
set_option maxRecDepth 20000 in
theorem gL_isProved_L_print : GoodIn wsL_isProved (va_wsS RL 95 yL_print wsL_print) := goodIn_app (goodIn_of _ (by decide +kernel)) ggL_isProved_L_print
set_option maxRecDepth 20000 in
theorem ggL_isProved_X4_deals : GoodIn wsL_isProved wsX4_deals := goodIn_r _ [116, 20, 224, 225, 226, 227, 228, 229, 230, 231, 232, 233, 234, 235, 236, 237, 238, 239, 240, 241, 242, 243, 244, 245, 246, 247, 248, 249, 250, 251] (by decide +kernel) (by decide +kernel)
set_option maxRecDepth 20000 in
theorem gL_isProved_X4_deals : GoodIn wsL_isProved (wsV RL 124 RX4 yX4_deals wsX4_deals) := goodIn_app (goodIn_of _ (by decide +kernel)) ggL_isProved_X4_deals
