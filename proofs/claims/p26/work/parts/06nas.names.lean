set_option maxRecDepth 20000 in
theorem gL_areGuests_L_question : GoodIn wsL_areGuests (va_wsS RL 93 yL_question wsL_question) := goodIn_app (goodIn_of _ (by decide +kernel)) ggL_areGuests_L_question
theorem dL_areGuests_0 : decode cL_areGuests 0 = .ok (.iconst 0, 1) := by decide +kernel
theorem dL_areGuests_1 : decode cL_areGuests 1 = .ok (.istore_n 1, 1) := by decide +kernel
theorem dL_areGuests_2 : decode cL_areGuests 2 = .ok (.iconst 0, 1) := by decide +kernel
theorem dL_areGuests_3 : decode cL_areGuests 3 = .ok (.istore_n 2, 1) := by decide +kernel
theorem dL_areGuests_4 : decode cL_areGuests 4 = .ok (.iconst 0, 1) := by decide +kernel
theorem dL_areGuests_5 : decode cL_areGuests 5 = .ok (.istore_n 3, 1) := by decide +kernel
theorem dL_areGuests_6 : decode cL_areGuests 6 = .ok (.iconst 0, 1) := by decide +kernel
theorem dL_areGuests_7 : decode cL_areGuests 7 = .ok (.istore 4, 2) := by decide +kernel
theorem dL_areGuests_9 : decode cL_areGuests 9 = .ok (.iconst 0, 1) := by decide +kernel
theorem dL_areGuests_10 : decode cL_areGuests 10 = .ok (.istore 5, 2) := by decide +kernel
theorem dL_areGuests_12 : decode cL_areGuests 12 = .ok (.aload_n 0, 1) := by decide +kernel
theorem dL_areGuests_13 : decode cL_areGuests 13 = .ok (.iconst 0, 1) := by decide +kernel
theorem dL_areGuests_14 : decode cL_areGuests 14 = .ok (.invokestatic 85, 3) := by decide +kernel
theorem dL_areGuests_17 : decode cL_areGuests 17 = .ok (.istore 6, 2) := by decide +kernel
theorem dL_areGuests_19 : decode cL_areGuests 19 = .ok (.aload_n 0, 1) := by decide +kernel
theorem dL_areGuests_20 : decode cL_areGuests 20 = .ok (.iconst 2, 1) := by decide +kernel
theorem dL_areGuests_21 : decode cL_areGuests 21 = .ok (.invokestatic 85, 3) := by decide +kernel
theorem dL_areGuests_24 : decode cL_areGuests 24 = .ok (.bipush 20, 2) := by decide +kernel
theorem dL_areGuests_26 : decode cL_areGuests 26 = .ok (.if_icmp .gt 37, 3) := by decide +kernel
theorem dL_areGuests_29 : decode cL_areGuests 29 = .ok (.aload_n 0, 1) := by decide +kernel
theorem dL_areGuests_30 : decode cL_areGuests 30 = .ok (.iconst 5, 1) := by decide +kernel
theorem dL_areGuests_31 : decode cL_areGuests 31 = .ok (.invokestatic 85, 3) := by decide +kernel
theorem dL_areGuests_34 : decode cL_areGuests 34 = .ok (.aload_n 0, 1) := by decide +kernel
theorem dL_areGuests_35 : decode cL_areGuests 35 = .ok (.iconst 4, 1) := by decide +kernel
theorem dL_areGuests_36 : decode cL_areGuests 36 = .ok (.invokestatic 85, 3) := by decide +kernel
theorem dL_areGuests_39 : decode cL_areGuests 39 = .ok (.if_icmp .gt 24, 3) := by decide +kernel
theorem dL_areGuests_42 : decode cL_areGuests 42 = .ok (.iload 6, 2) := by decide +kernel
theorem dL_areGuests_44 : decode cL_areGuests 44 = .ok (.ifCond .eq 15, 3) := by decide +kernel
theorem dL_areGuests_47 : decode cL_areGuests 47 = .ok (.iload 6, 2) := by decide +kernel
theorem dL_areGuests_49 : decode cL_areGuests 49 = .ok (.iconst 3, 1) := by decide +kernel
theorem dL_areGuests_50 : decode cL_areGuests 50 = .ok (.if_icmp .eq 9, 3) := by decide +kernel
theorem dL_areGuests_53 : decode cL_areGuests 53 = .ok (.iload 6, 2) := by decide +kernel
theorem dL_areGuests_55 : decode cL_areGuests 55 = .ok (.iconst 4, 1) := by decide +kernel
theorem dL_areGuests_56 : decode cL_areGuests 56 = .ok (.if_icmp .ne 7, 3) := by decide +kernel
theorem dL_areGuests_59 : decode cL_areGuests 59 = .ok (.iconst 1, 1) := by decide +kernel
theorem dL_areGuests_60 : decode cL_areGuests 60 = .ok (.goto 4, 3) := by decide +kernel
theorem dL_areGuests_63 : decode cL_areGuests 63 = .ok (.iconst 0, 1) := by decide +kernel
theorem dL_areGuests_64 : decode cL_areGuests 64 = .ok (.istore 7, 2) := by decide +kernel
theorem dL_areGuests_66 : decode cL_areGuests 66 = .ok (.iconst 0, 1) := by decide +kernel
theorem dL_areGuests_67 : decode cL_areGuests 67 = .ok (.istore 8, 2) := by decide +kernel
theorem dL_areGuests_69 : decode cL_areGuests 69 = .ok (.iload 8, 2) := by decide +kernel
theorem dL_areGuests_71 : decode cL_areGuests 71 = .ok (.iload 6, 2) := by decide +kernel
theorem dL_areGuests_73 : decode cL_areGuests 73 = .ok (.if_icmp .ge 136, 3) := by decide +kernel
theorem dL_areGuests_76 : decode cL_areGuests 76 = .ok (.iload 7, 2) := by decide +kernel
theorem dL_areGuests_78 : decode cL_areGuests 78 = .ok (.ifCond .eq 131, 3) := by decide +kernel
theorem dL_areGuests_81 : decode cL_areGuests 81 = .ok (.iload_n 1, 1) := by decide +kernel
theorem dL_areGuests_82 : decode cL_areGuests 82 = .ok (.aload_n 0, 1) := by decide +kernel
theorem dL_areGuests_83 : decode cL_areGuests 83 = .ok (.iload 8, 2) := by decide +kernel
theorem dL_areGuests_85 : decode cL_areGuests 85 = .ok (.iconst 1, 1) := by decide +kernel
theorem dL_areGuests_86 : decode cL_areGuests 86 = .ok (.invokestatic 90, 3) := by decide +kernel
theorem dL_areGuests_89 : decode cL_areGuests 89 = .ok (.iadd, 1) := by decide +kernel
theorem dL_areGuests_90 : decode cL_areGuests 90 = .ok (.istore_n 1, 1) := by decide +kernel
theorem dL_areGuests_91 : decode cL_areGuests 91 = .ok (.iload_n 2, 1) := by decide +kernel
theorem dL_areGuests_92 : decode cL_areGuests 92 = .ok (.aload_n 0, 1) := by decide +kernel
theorem dL_areGuests_93 : decode cL_areGuests 93 = .ok (.iload 8, 2) := by decide +kernel
theorem dL_areGuests_95 : decode cL_areGuests 95 = .ok (.iconst 2, 1) := by decide +kernel
theorem dL_areGuests_96 : decode cL_areGuests 96 = .ok (.invokestatic 90, 3) := by decide +kernel
theorem dL_areGuests_99 : decode cL_areGuests 99 = .ok (.iadd, 1) := by decide +kernel
theorem dL_areGuests_100 : decode cL_areGuests 100 = .ok (.istore_n 2, 1) := by decide +kernel
theorem dL_areGuests_101 : decode cL_areGuests 101 = .ok (.iload_n 3, 1) := by decide +kernel
theorem dL_areGuests_102 : decode cL_areGuests 102 = .ok (.aload_n 0, 1) := by decide +kernel
theorem dL_areGuests_103 : decode cL_areGuests 103 = .ok (.iload 8, 2) := by decide +kernel
theorem dL_areGuests_105 : decode cL_areGuests 105 = .ok (.iconst 3, 1) := by decide +kernel
theorem dL_areGuests_106 : decode cL_areGuests 106 = .ok (.invokestatic 90, 3) := by decide +kernel
theorem dL_areGuests_109 : decode cL_areGuests 109 = .ok (.iadd, 1) := by decide +kernel
theorem dL_areGuests_110 : decode cL_areGuests 110 = .ok (.istore_n 3, 1) := by decide +kernel
theorem dL_areGuests_111 : decode cL_areGuests 111 = .ok (.iload 5, 2) := by decide +kernel
theorem dL_areGuests_113 : decode cL_areGuests 113 = .ok (.aload_n 0, 1) := by decide +kernel
theorem dL_areGuests_114 : decode cL_areGuests 114 = .ok (.iload 8, 2) := by decide +kernel
theorem dL_areGuests_116 : decode cL_areGuests 116 = .ok (.iconst 0, 1) := by decide +kernel
theorem dL_areGuests_117 : decode cL_areGuests 117 = .ok (.invokestatic 90, 3) := by decide +kernel
theorem dL_areGuests_120 : decode cL_areGuests 120 = .ok (.iadd, 1) := by decide +kernel
theorem dL_areGuests_121 : decode cL_areGuests 121 = .ok (.istore 5, 2) := by decide +kernel
theorem dL_areGuests_123 : decode cL_areGuests 123 = .ok (.aload_n 0, 1) := by decide +kernel
theorem dL_areGuests_124 : decode cL_areGuests 124 = .ok (.iload 8, 2) := by decide +kernel
theorem dL_areGuests_126 : decode cL_areGuests 126 = .ok (.bipush 7, 2) := by decide +kernel
theorem dL_areGuests_128 : decode cL_areGuests 128 = .ok (.invokestatic 90, 3) := by decide +kernel
theorem dL_areGuests_131 : decode cL_areGuests 131 = .ok (.istore 9, 2) := by decide +kernel
theorem dL_areGuests_133 : decode cL_areGuests 133 = .ok (.aload_n 0, 1) := by decide +kernel
theorem dL_areGuests_134 : decode cL_areGuests 134 = .ok (.iconst 1, 1) := by decide +kernel
theorem dL_areGuests_135 : decode cL_areGuests 135 = .ok (.invokestatic 85, 3) := by decide +kernel
theorem dL_areGuests_138 : decode cL_areGuests 138 = .ok (.iconst 1, 1) := by decide +kernel
theorem dL_areGuests_139 : decode cL_areGuests 139 = .ok (.if_icmp .ne 17, 3) := by decide +kernel
theorem dL_areGuests_142 : decode cL_areGuests 142 = .ok (.iload 9, 2) := by decide +kernel
theorem dL_areGuests_144 : decode cL_areGuests 144 = .ok (.iconst (-1), 1) := by decide +kernel
theorem dL_areGuests_145 : decode cL_areGuests 145 = .ok (.if_icmp .ne 7, 3) := by decide +kernel
theorem dL_areGuests_148 : decode cL_areGuests 148 = .ok (.iconst 1, 1) := by decide +kernel
theorem dL_areGuests_149 : decode cL_areGuests 149 = .ok (.goto 35, 3) := by decide +kernel
theorem dL_areGuests_152 : decode cL_areGuests 152 = .ok (.iconst 0, 1) := by decide +kernel
theorem dL_areGuests_153 : decode cL_areGuests 153 = .ok (.goto 31, 3) := by decide +kernel
theorem dL_areGuests_156 : decode cL_areGuests 156 = .ok (.iload 9, 2) := by decide +kernel
theorem dL_areGuests_158 : decode cL_areGuests 158 = .ok (.invokestatic 136, 3) := by decide +kernel
theorem dL_areGuests_161 : decode cL_areGuests 161 = .ok (.aload_n 0, 1) := by decide +kernel
theorem dL_areGuests_162 : decode cL_areGuests 162 = .ok (.iload 8, 2) := by decide +kernel
theorem dL_areGuests_164 : decode cL_areGuests 164 = .ok (.iconst 0, 1) := by decide +kernel
theorem dL_areGuests_165 : decode cL_areGuests 165 = .ok (.invokestatic 90, 3) := by decide +kernel
theorem dL_areGuests_168 : decode cL_areGuests 168 = .ok (.if_icmp .ne 15, 3) := by decide +kernel
theorem dL_areGuests_171 : decode cL_areGuests 171 = .ok (.iload 9, 2) := by decide +kernel
theorem dL_areGuests_173 : decode cL_areGuests 173 = .ok (.iload 4, 2) := by decide +kernel
theorem dL_areGuests_175 : decode cL_areGuests 175 = .ok (.iand, 1) := by decide +kernel
theorem dL_areGuests_176 : decode cL_areGuests 176 = .ok (.ifCond .ne 7, 3) := by decide +kernel
theorem dL_areGuests_179 : decode cL_areGuests 179 = .ok (.iconst 1, 1) := by decide +kernel
theorem dL_areGuests_180 : decode cL_areGuests 180 = .ok (.goto 4, 3) := by decide +kernel
theorem dL_areGuests_183 : decode cL_areGuests 183 = .ok (.iconst 0, 1) := by decide +kernel
theorem dL_areGuests_184 : decode cL_areGuests 184 = .ok (.istore 7, 2) := by decide +kernel
theorem dL_areGuests_186 : decode cL_areGuests 186 = .ok (.iload 4, 2) := by decide +kernel
theorem dL_areGuests_188 : decode cL_areGuests 188 = .ok (.iload 9, 2) := by decide +kernel
theorem dL_areGuests_190 : decode cL_areGuests 190 = .ok (.iconst (-1), 1) := by decide +kernel
theorem dL_areGuests_191 : decode cL_areGuests 191 = .ok (.if_icmp .ne 7, 3) := by decide +kernel
theorem dL_areGuests_194 : decode cL_areGuests 194 = .ok (.iconst 0, 1) := by decide +kernel
theorem dL_areGuests_195 : decode cL_areGuests 195 = .ok (.goto 5, 3) := by decide +kernel
theorem dL_areGuests_198 : decode cL_areGuests 198 = .ok (.iload 9, 2) := by decide +kernel
theorem dL_areGuests_200 : decode cL_areGuests 200 = .ok (.ior, 1) := by decide +kernel
theorem dL_areGuests_201 : decode cL_areGuests 201 = .ok (.istore 4, 2) := by decide +kernel
theorem dL_areGuests_203 : decode cL_areGuests 203 = .ok (.iinc 8 1, 3) := by decide +kernel
theorem dL_areGuests_206 : decode cL_areGuests 206 = .ok (.goto (-137), 3) := by decide +kernel
theorem dL_areGuests_209 : decode cL_areGuests 209 = .ok (.iconst 0, 1) := by decide +kernel
theorem dL_areGuests_210 : decode cL_areGuests 210 = .ok (.istore 8, 2) := by decide +kernel
theorem dL_areGuests_212 : decode cL_areGuests 212 = .ok (.iload 8, 2) := by decide +kernel
theorem dL_areGuests_214 : decode cL_areGuests 214 = .ok (.aload_n 0, 1) := by decide +kernel
theorem dL_areGuests_215 : decode cL_areGuests 215 = .ok (.iconst 2, 1) := by decide +kernel
theorem dL_areGuests_216 : decode cL_areGuests 216 = .ok (.invokestatic 85, 3) := by decide +kernel
theorem dL_areGuests_219 : decode cL_areGuests 219 = .ok (.if_icmp .ge 106, 3) := by decide +kernel
theorem dL_areGuests_222 : decode cL_areGuests 222 = .ok (.iload 7, 2) := by decide +kernel
theorem dL_areGuests_224 : decode cL_areGuests 224 = .ok (.ifCond .eq 101, 3) := by decide +kernel
theorem dL_areGuests_227 : decode cL_areGuests 227 = .ok (.aload_n 0, 1) := by decide +kernel
theorem dL_areGuests_228 : decode cL_areGuests 228 = .ok (.iload 8, 2) := by decide +kernel
theorem dL_areGuests_230 : decode cL_areGuests 230 = .ok (.iconst 0, 1) := by decide +kernel
theorem dL_areGuests_231 : decode cL_areGuests 231 = .ok (.invokestatic 93, 3) := by decide +kernel
theorem dL_areGuests_234 : decode cL_areGuests 234 = .ok (.istore 9, 2) := by decide +kernel
theorem dL_areGuests_236 : decode cL_areGuests 236 = .ok (.aload_n 0, 1) := by decide +kernel
theorem dL_areGuests_237 : decode cL_areGuests 237 = .ok (.iload 8, 2) := by decide +kernel
theorem dL_areGuests_239 : decode cL_areGuests 239 = .ok (.iconst 1, 1) := by decide +kernel
theorem dL_areGuests_240 : decode cL_areGuests 240 = .ok (.invokestatic 93, 3) := by decide +kernel
theorem dL_areGuests_243 : decode cL_areGuests 243 = .ok (.invokestatic 136, 3) := by decide +kernel
theorem dL_areGuests_246 : decode cL_areGuests 246 = .ok (.aload_n 0, 1) := by decide +kernel
theorem dL_areGuests_247 : decode cL_areGuests 247 = .ok (.iload 9, 2) := by decide +kernel
theorem dL_areGuests_249 : decode cL_areGuests 249 = .ok (.iconst 0, 1) := by decide +kernel
theorem dL_areGuests_250 : decode cL_areGuests 250 = .ok (.invokestatic 90, 3) := by decide +kernel
theorem dL_areGuests_253 : decode cL_areGuests 253 = .ok (.if_icmp .ge 16, 3) := by decide +kernel
theorem dL_areGuests_256 : decode cL_areGuests 256 = .ok (.aload_n 0, 1) := by decide +kernel
theorem dL_areGuests_257 : decode cL_areGuests 257 = .ok (.iload 8, 2) := by decide +kernel
theorem dL_areGuests_259 : decode cL_areGuests 259 = .ok (.iconst 1, 1) := by decide +kernel
theorem dL_areGuests_260 : decode cL_areGuests 260 = .ok (.invokestatic 93, 3) := by decide +kernel
theorem dL_areGuests_263 : decode cL_areGuests 263 = .ok (.invokestatic 136, 3) := by decide +kernel
theorem dL_areGuests_266 : decode cL_areGuests 266 = .ok (.goto 10, 3) := by decide +kernel
theorem dL_areGuests_269 : decode cL_areGuests 269 = .ok (.aload_n 0, 1) := by decide +kernel
theorem dL_areGuests_270 : decode cL_areGuests 270 = .ok (.iload 9, 2) := by decide +kernel
theorem dL_areGuests_272 : decode cL_areGuests 272 = .ok (.iconst 0, 1) := by decide +kernel
theorem dL_areGuests_273 : decode cL_areGuests 273 = .ok (.invokestatic 90, 3) := by decide +kernel
theorem dL_areGuests_276 : decode cL_areGuests 276 = .ok (.istore 10, 2) := by decide +kernel
theorem dL_areGuests_278 : decode cL_areGuests 278 = .ok (.iload 9, 2) := by decide +kernel
theorem dL_areGuests_280 : decode cL_areGuests 280 = .ok (.ifCond .lt 36, 3) := by decide +kernel
theorem dL_areGuests_283 : decode cL_areGuests 283 = .ok (.iload 9, 2) := by decide +kernel
theorem dL_areGuests_285 : decode cL_areGuests 285 = .ok (.iload 6, 2) := by decide +kernel
theorem dL_areGuests_287 : decode cL_areGuests 287 = .ok (.if_icmp .ge 29, 3) := by decide +kernel
theorem dL_areGuests_290 : decode cL_areGuests 290 = .ok (.aload_n 0, 1) := by decide +kernel
theorem dL_areGuests_291 : decode cL_areGuests 291 = .ok (.iload 8, 2) := by decide +kernel
theorem dL_areGuests_293 : decode cL_areGuests 293 = .ok (.iconst 2, 1) := by decide +kernel
theorem dL_areGuests_294 : decode cL_areGuests 294 = .ok (.invokestatic 93, 3) := by decide +kernel
theorem dL_areGuests_297 : decode cL_areGuests 297 = .ok (.ifCond .lt 19, 3) := by decide +kernel
theorem dL_areGuests_300 : decode cL_areGuests 300 = .ok (.aload_n 0, 1) := by decide +kernel
theorem dL_areGuests_301 : decode cL_areGuests 301 = .ok (.iload 8, 2) := by decide +kernel
theorem dL_areGuests_303 : decode cL_areGuests 303 = .ok (.iconst 2, 1) := by decide +kernel
theorem dL_areGuests_304 : decode cL_areGuests 304 = .ok (.invokestatic 93, 3) := by decide +kernel
theorem dL_areGuests_307 : decode cL_areGuests 307 = .ok (.iload 10, 2) := by decide +kernel
theorem dL_areGuests_309 : decode cL_areGuests 309 = .ok (.if_icmp .gt 7, 3) := by decide +kernel
theorem dL_areGuests_312 : decode cL_areGuests 312 = .ok (.iconst 1, 1) := by decide +kernel
theorem dL_areGuests_313 : decode cL_areGuests 313 = .ok (.goto 4, 3) := by decide +kernel
theorem dL_areGuests_316 : decode cL_areGuests 316 = .ok (.iconst 0, 1) := by decide +kernel
theorem dL_areGuests_317 : decode cL_areGuests 317 = .ok (.istore 7, 2) := by decide +kernel
theorem dL_areGuests_319 : decode cL_areGuests 319 = .ok (.iinc 8 1, 3) := by decide +kernel
theorem dL_areGuests_322 : decode cL_areGuests 322 = .ok (.goto (-110), 3) := by decide +kernel
theorem dL_areGuests_325 : decode cL_areGuests 325 = .ok (.iload 7, 2) := by decide +kernel
theorem dL_areGuests_327 : decode cL_areGuests 327 = .ok (.ifCond .eq 105, 3) := by decide +kernel
theorem dL_areGuests_330 : decode cL_areGuests 330 = .ok (.iload_n 1, 1) := by decide +kernel
theorem dL_areGuests_331 : decode cL_areGuests 331 = .ok (.aload_n 0, 1) := by decide +kernel
theorem dL_areGuests_332 : decode cL_areGuests 332 = .ok (.bipush 8, 2) := by decide +kernel
theorem dL_areGuests_334 : decode cL_areGuests 334 = .ok (.invokestatic 85, 3) := by decide +kernel
theorem dL_areGuests_337 : decode cL_areGuests 337 = .ok (.if_icmp .ne 95, 3) := by decide +kernel
theorem dL_areGuests_340 : decode cL_areGuests 340 = .ok (.iload_n 2, 1) := by decide +kernel
theorem dL_areGuests_341 : decode cL_areGuests 341 = .ok (.aload_n 0, 1) := by decide +kernel
theorem dL_areGuests_342 : decode cL_areGuests 342 = .ok (.iconst 2, 1) := by decide +kernel
theorem dL_areGuests_343 : decode cL_areGuests 343 = .ok (.invokestatic 85, 3) := by decide +kernel
theorem dL_areGuests_346 : decode cL_areGuests 346 = .ok (.if_icmp .ne 86, 3) := by decide +kernel
theorem dL_areGuests_349 : decode cL_areGuests 349 = .ok (.iload_n 3, 1) := by decide +kernel
theorem dL_areGuests_350 : decode cL_areGuests 350 = .ok (.aload_n 0, 1) := by decide +kernel
theorem dL_areGuests_351 : decode cL_areGuests 351 = .ok (.iconst 3, 1) := by decide +kernel
theorem dL_areGuests_352 : decode cL_areGuests 352 = .ok (.invokestatic 85, 3) := by decide +kernel
theorem dL_areGuests_355 : decode cL_areGuests 355 = .ok (.if_icmp .ne 77, 3) := by decide +kernel
theorem dL_areGuests_358 : decode cL_areGuests 358 = .ok (.iload 6, 2) := by decide +kernel
theorem dL_areGuests_360 : decode cL_areGuests 360 = .ok (.ifCond .eq 10, 3) := by decide +kernel
theorem dL_areGuests_363 : decode cL_areGuests 363 = .ok (.iload 5, 2) := by decide +kernel
theorem dL_areGuests_365 : decode cL_areGuests 365 = .ok (.bipush 7, 2) := by decide +kernel
theorem dL_areGuests_367 : decode cL_areGuests 367 = .ok (.if_icmp .ne 65, 3) := by decide +kernel
theorem dL_areGuests_370 : decode cL_areGuests 370 = .ok (.iload 6, 2) := by decide +kernel
theorem dL_areGuests_372 : decode cL_areGuests 372 = .ok (.ifCond .eq 12, 3) := by decide +kernel
theorem dL_areGuests_375 : decode cL_areGuests 375 = .ok (.aload_n 0, 1) := by decide +kernel
theorem dL_areGuests_376 : decode cL_areGuests 376 = .ok (.iconst 1, 1) := by decide +kernel
theorem dL_areGuests_377 : decode cL_areGuests 377 = .ok (.invokestatic 85, 3) := by decide +kernel
theorem dL_areGuests_380 : decode cL_areGuests 380 = .ok (.iconst 1, 1) := by decide +kernel
theorem dL_areGuests_381 : decode cL_areGuests 381 = .ok (.if_icmp .ne 16, 3) := by decide +kernel
theorem dL_areGuests_384 : decode cL_areGuests 384 = .ok (.aload_n 0, 1) := by decide +kernel
theorem dL_areGuests_385 : decode cL_areGuests 385 = .ok (.bipush 9, 2) := by decide +kernel
theorem dL_areGuests_387 : decode cL_areGuests 387 = .ok (.invokestatic 85, 3) := by decide +kernel
theorem dL_areGuests_390 : decode cL_areGuests 390 = .ok (.iconst (-1), 1) := by decide +kernel
theorem dL_areGuests_391 : decode cL_areGuests 391 = .ok (.if_icmp .ne 41, 3) := by decide +kernel
theorem dL_areGuests_394 : decode cL_areGuests 394 = .ok (.goto 34, 3) := by decide +kernel
theorem dL_areGuests_397 : decode cL_areGuests 397 = .ok (.iload 4, 2) := by decide +kernel
theorem dL_areGuests_399 : decode cL_areGuests 399 = .ok (.iconst 1, 1) := by decide +kernel
theorem dL_areGuests_400 : decode cL_areGuests 400 = .ok (.aload_n 0, 1) := by decide +kernel
theorem dL_areGuests_401 : decode cL_areGuests 401 = .ok (.bipush 9, 2) := by decide +kernel
theorem dL_areGuests_403 : decode cL_areGuests 403 = .ok (.invokestatic 85, 3) := by decide +kernel
theorem dL_areGuests_406 : decode cL_areGuests 406 = .ok (.ishl, 1) := by decide +kernel
theorem dL_areGuests_407 : decode cL_areGuests 407 = .ok (.ior, 1) := by decide +kernel
theorem dL_areGuests_408 : decode cL_areGuests 408 = .ok (.sipush 255, 3) := by decide +kernel
theorem dL_areGuests_411 : decode cL_areGuests 411 = .ok (.if_icmp .ne 21, 3) := by decide +kernel
theorem dL_areGuests_414 : decode cL_areGuests 414 = .ok (.iload 4, 2) := by decide +kernel
theorem dL_areGuests_416 : decode cL_areGuests 416 = .ok (.aload_n 0, 1) := by decide +kernel
theorem dL_areGuests_417 : decode cL_areGuests 417 = .ok (.bipush 9, 2) := by decide +kernel
theorem dL_areGuests_419 : decode cL_areGuests 419 = .ok (.invokestatic 85, 3) := by decide +kernel
theorem dL_areGuests_422 : decode cL_areGuests 422 = .ok (.ishr, 1) := by decide +kernel
theorem dL_areGuests_423 : decode cL_areGuests 423 = .ok (.iconst 1, 1) := by decide +kernel
theorem dL_areGuests_424 : decode cL_areGuests 424 = .ok (.iand, 1) := by decide +kernel
theorem dL_areGuests_425 : decode cL_areGuests 425 = .ok (.ifCond .ne 7, 3) := by decide +kernel
theorem dL_areGuests_428 : decode cL_areGuests 428 = .ok (.iconst 1, 1) := by decide +kernel
theorem dL_areGuests_429 : decode cL_areGuests 429 = .ok (.goto 4, 3) := by decide +kernel
theorem dL_areGuests_432 : decode cL_areGuests 432 = .ok (.iconst 0, 1) := by decide +kernel
theorem dL_areGuests_433 : decode cL_areGuests 433 = .ok (.ireturn, 1) := by decide +kernel
set_option maxRecDepth 20000 in
theorem ggL_isAsked_X4_deals : GoodIn wsL_isAsked wsX4_deals := goodIn_r _ [6, 7, 241, 242, 243, 244, 245, 246, 247, 248, 249, 250, 251, 252, 253, 254, 255, 256, 257, 258, 259, 260, 261, 262, 263, 264, 265, 266, 267, 268] (by decide +kernel) (by decide +kernel)
set_option maxRecDepth 20000 in
theorem gL_isAsked_X4_deals : GoodIn wsL_isAsked (wsV RL 124 RX4 yX4_deals wsX4_deals) := goodIn_app (goodIn_of _ (by decide +kernel)) ggL_isAsked_X4_deals
set_option maxRecDepth 20000 in
theorem ggL_isAsked_L_worst_h : GoodIn wsL_isAsked [.codeWith yL_worst cL_worst 5 (some .int) [(0, 7, 10, 25), (0, 7, 15, 15)]] := goodIn_r _ [11] (by decide +kernel) (by decide +kernel)
set_option maxRecDepth 20000 in
theorem ggL_isAsked_L_worst_r1 : GoodIn wsL_isAsked wsL_worst_r1 := goodIn_r _ [12, 13, 14, 15, 16, 17, 18, 5, 19, 20, 21, 22, 23, 7, 24, 25, 26, 27, 28, 29, 30, 31, 32, 33] (by decide +kernel) (by decide +kernel)
set_option maxRecDepth 20000 in
theorem ggL_isAsked_L_worst_r2 : GoodIn wsL_isAsked wsL_worst_r2 := goodIn_r _ [34, 35, 36, 37, 38, 39, 40, 41, 42, 43, 44, 45, 46, 47, 48, 49, 50, 51, 52, 53, 54, 55, 56, 57] (by decide +kernel) (by decide +kernel)
set_option maxRecDepth 20000 in
theorem ggL_isAsked_L_worst_r3 : GoodIn wsL_isAsked wsL_worst_r3 := goodIn_r _ [58, 59, 60, 61, 62, 63, 64, 65, 66, 67, 68, 69, 70, 71] (by decide +kernel) (by decide +kernel)
set_option maxRecDepth 20000 in
theorem ggL_isAsked_L_worst_x4 : GoodIn wsL_isAsked wsX40 := goodIn_r _ [241, 242, 243, 244, 245, 246, 247] (by decide +kernel) (by decide +kernel)
set_option maxRecDepth 20000 in
theorem ggL_isAsked_L_worst_x1 : GoodIn wsL_isAsked wsX10 := goodIn_r _ [248, 249, 250, 251, 252, 253, 254, 255, 256, 257, 258, 259, 260, 261, 262, 263, 264] (by decide +kernel) (by decide +kernel)
set_option maxRecDepth 20000 in
theorem ggL_isAsked_L_worst_x2 : GoodIn wsL_isAsked wsX20 := goodIn_r _ [269, 270, 271] (by decide +kernel) (by decide +kernel)
set_option maxRecDepth 20000 in
theorem ggL_isAsked_L_worst_x0 : GoodIn wsL_isAsked wsX00 := goodIn_r _ [265, 266, 267, 268] (by decide +kernel) (by decide +kernel)
set_option maxRecDepth 20000 in
theorem ggL_isAsked_L_worst : GoodIn wsL_isAsked wsL_worst := goodIn_ca (goodIn_ca (goodIn_cc ggL_isAsked_L_worst_h (goodIn_app (goodIn_app (goodIn_app (goodIn_app (goodIn_app ggL_isAsked_L_worst_r1 (goodIn_app ggL_isAsked_L_worst_r2 (ggL_isAsked_L_worst_r3))) ggL_isAsked_L_worst_x4) ggL_isAsked_L_worst_x1) ggL_isAsked_L_worst_x2) ggL_isAsked_L_worst_x0)) (goodIn_sub (fun _ h => List.mem_cons_of_mem _ (List.mem_append_left _ (List.mem_append_left _ (List.mem_append_right _ h)))) (by decide +kernel))) (goodIn_sub (fun _ h => List.mem_cons_of_mem _ (List.mem_append_left _ (List.mem_append_right _ h))) (by decide +kernel))
set_option maxRecDepth 20000 in
theorem gL_isAsked_L_worst : GoodIn wsL_isAsked (va_wsS RL 118 yL_worst wsL_worst) := goodIn_app (goodIn_of _ (by decide +kernel)) ggL_isAsked_L_worst
set_option maxRecDepth 20000 in
theorem ggL_isAsked_L_dealsIf_h : GoodIn wsL_isAsked [.codeWith yL_dealsIf cL_dealsIf 6 (some .int) [(0, 9, 12, 25), (0, 9, 17, 15)]] := goodIn_r _ [74] (by decide +kernel) (by decide +kernel)
set_option maxRecDepth 20000 in
theorem ggL_isAsked_L_dealsIf_r1 : GoodIn wsL_isAsked wsL_dealsIf_r1 := goodIn_r _ [12, 13, 14, 15, 75, 76, 77, 5, 78, 20, 21, 22, 23, 7, 24, 25, 26, 27, 28, 29, 30, 31, 32, 33] (by decide +kernel) (by decide +kernel)
set_option maxRecDepth 20000 in
theorem ggL_isAsked_L_dealsIf_r2 : GoodIn wsL_isAsked wsL_dealsIf_r2 := goodIn_r _ [34, 35, 36, 37, 38, 39, 40, 41, 42, 43, 44, 45, 46, 47, 48, 49, 50, 51, 52, 53, 54, 55, 56, 79] (by decide +kernel) (by decide +kernel)
set_option maxRecDepth 20000 in
theorem ggL_isAsked_L_dealsIf_r3 : GoodIn wsL_isAsked wsL_dealsIf_r3 := goodIn_r _ [80, 81, 82, 65, 66, 67, 68, 69, 70, 71] (by decide +kernel) (by decide +kernel)
set_option maxRecDepth 20000 in
theorem ggL_isAsked_L_dealsIf_x4 : GoodIn wsL_isAsked wsX40 := goodIn_r _ [241, 242, 243, 244, 245, 246, 247] (by decide +kernel) (by decide +kernel)
set_option maxRecDepth 20000 in
theorem ggL_isAsked_L_dealsIf_x1 : GoodIn wsL_isAsked wsX10 := goodIn_r _ [248, 249, 250, 251, 252, 253, 254, 255, 256, 257, 258, 259, 260, 261, 262, 263, 264] (by decide +kernel) (by decide +kernel)
set_option maxRecDepth 20000 in
theorem ggL_isAsked_L_dealsIf_x2 : GoodIn wsL_isAsked wsX20 := goodIn_r _ [269, 270, 271] (by decide +kernel) (by decide +kernel)
